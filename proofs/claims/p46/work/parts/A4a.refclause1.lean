theorem dX12_clauseOf_43 : decode cX12_clauseOf 43 = .ok (.aload_n 0, 1) := by decide +kernel
theorem dX12_clauseOf_44 : decode cX12_clauseOf 44 = .ok (.invokevirtual 249, 3) := by decide +kernel
theorem dX12_clauseOf_47 : decode cX12_clauseOf 47 = .ok (.ifCond .ne 5, 3) := by decide +kernel
theorem dX12_clauseOf_50 : decode cX12_clauseOf 50 = .ok (.iconst 0, 1) := by decide +kernel
theorem dX12_clauseOf_51 : decode cX12_clauseOf 51 = .ok (.ireturn, 1) := by decide +kernel
theorem dX12_clauseOf_82 : decode cX12_clauseOf 82 = .ok (.aload_n 0, 1) := by decide +kernel
theorem dX12_clauseOf_83 : decode cX12_clauseOf 83 = .ok (.ldc2_w 276, 3) := by decide +kernel
theorem dX12_clauseOf_86 : decode cX12_clauseOf 86 = .ok (.invokevirtual 278, 3) := by decide +kernel
theorem dX12_clauseOf_89 : decode cX12_clauseOf 89 = .ok (.ifCond .eq 29, 3) := by decide +kernel
theorem wk_614 : Cond.constantLong RX12 276 (26982) ∈ tl_L := List.mem_filter.mpr ⟨lw_m7 (i := 159) rfl, rfl⟩
theorem wk_649 : Cond.methodLink RX12 278 yX12_takesWord ∈ tl_L := List.mem_filter.mpr ⟨lw_m7 (i := 160) rfl, rfl⟩
theorem wk_650 : Cond.instanceMethod yX12_takesWord ∈ tl_L := List.mem_filter.mpr ⟨lw_m7 (i := 162) rfl, rfl⟩
theorem wk_651 : Cond.selects RX12 yX12_takesWord yX12_takesWord ∈ tl_L := List.mem_filter.mpr ⟨lw_s9 (i := 2) (q := (yX12_takesWord, 49)) rfl, rfl⟩
theorem wk_652 : Cond.code yX12_takesWord cX12_takesWord 3 (some .boolean) ∈ tl_L := List.mem_filter.mpr ⟨lw_m7 (i := 163) rfl, rfl⟩
theorem lk_X12_278 : tl_kV RX12 278 RX12 yX12_takesWord cX12_takesWord 3 (some .boolean) 1 := ⟨wk_652, wk_649, wk_650, wk_651, wk_5, ⟨by decide +kernel, by decide +kernel, by decide +kernel⟩⟩
set_option maxHeartbeats 4000000 in
set_option maxRecDepth 100000 in
theorem r_clauseOf_1 (l : Launch) (D : va_G) (cy : Nat → ClassId) (sz : Nat) (L : List Nat) (K : Nat → tk_K) (Γ : tk_G) (f : Nat → va_E) (o : Nat) (τ : Nat → Int) (T0 : Int) (t0 : Int) (ho : tp_r L K 39 (0) 0 o) (ht : Γ (41, 400, 0) = τ) (hT : Γ (39, 0, 0) 0 = T0) (hb0 : 0 ≤ Γ (39, 0, 0) 1 ∧ Γ (39, 0, 0) 1 ≤ T0 ∧ T0 ≤ 400) (h4 : Γ (39, 0, 0) 4 = t0 ∧ 0 ≤ t0 ∧ t0 ≤ 21) (hln : 0 ≤ Γ (44, 22, 0) t0.toNat ∧ Γ (44, 22, 0) t0.toNat ≤ Γ (39, 0, 0) 1) (h5 : 0 ≤ Γ (39, 0, 0) 5 ∧ Γ (39, 0, 0) 5 ≤ 60) (hC : 0 ≤ Γ (46, 22, 0) t0.toNat ∧ Γ (46, 22, 0) t0.toNat ≤ 11) (htc : tc (Γ (43, 8800, 0)) (Γ (45, 1056, 0)) (Γ (46, 22, 0)) t0 (Γ (44, 22, 0) t0.toNat)) : Met l yX12_clauseOf (tl_w yX12_clauseOf cX12_clauseOf 3 (some .boolean)) ({ frames := 9, cells := 0, slots := 0, locals := 198 }) (va_Pc [.ref o, .int 1] (tp_P D cy L K Γ f sz)) (va_Qi (fun (r : Int32) (u : (Nat → va_E) × tk_G) => tl_J r (u.2 (46, 22, 0) = tgu (Γ (46, 22, 0)) t0.toNat (Γ (46, 22, 0) t0.toNat + 1) ∧ u.2 (44, 22, 0) t0.toNat ≤ u.2 (39, 0, 0) 1 ∧ (0 ≤ u.2 (39, 0, 0) 5 ∧ u.2 (39, 0, 0) 5 ≤ 60) ∧ tc (u.2 (43, 8800, 0)) (u.2 (45, 1056, 0)) (u.2 (46, 22, 0)) t0 (u.2 (44, 22, 0) t0.toNat)) ∧ u.2 (39, 0, 0) 0 = Γ (39, 0, 0) 0 ∧ u.2 (39, 0, 0) 4 = Γ (39, 0, 0) 4 ∧ u.2 (39, 0, 0) 7 = Γ (39, 0, 0) 7 ∧ Γ (39, 0, 0) 1 ≤ u.2 (39, 0, 0) 1 ∧ u.2 (39, 0, 0) 1 ≤ T0 ∧ fw (Γ (43, 8800, 0)) (u.2 (43, 8800, 0)) (Γ (44, 22, 0)) (u.2 (44, 22, 0)) t0 ∧ (∀ i : Nat, (i : Int) < 48 * t0 ∨ 48 * t0 + 48 ≤ i → u.2 (45, 1056, 0) i = Γ (45, 1056, 0) i) ∧ (∀ j : Nat, ¬ j = t0.toNat → u.2 (46, 22, 0) j = Γ (46, 22, 0) j) ∧ tc (u.2 (43, 8800, 0)) (u.2 (45, 1056, 0)) (u.2 (46, 22, 0)) t0 (400) ∧ (Γ (46, 22, 0) t0.toNat ≤ u.2 (46, 22, 0) t0.toNat ∧ u.2 (46, 22, 0) t0.toNat ≤ Γ (46, 22, 0) t0.toNat + 1)) (tp_BG D cy L K Γ f [39, 43, 44, 52, 45, 46]) (tp_A L sz)) 0 0 (tp_A L sz) := by
  refine Met.ofW (cc := cX12_clauseOf) (maxL := 3) (ret := (some .boolean)) (by decide) rfl ?_
  intro p e s m args below meth c s₁ B hml hv
  obtain ⟨rfl, hsz, hP, hK, hL, hI, hN, hU⟩ := hv
  have hx := B.exec
  have hb := B.bytes
  have hr := B.returns
  have hta := tl_hta (atoms_spec (ws := tl_w yX12_clauseOf cX12_clauseOf 3 (some .boolean)) B.pre)
  have hown : s.vm.findClass RX12 = some m.cls := findClass_of_methodNamed B.named
  have hlocks := B.notSynchronized
  subst hsz
  have hI0 := hI
  generalize hAe : tp_A L s.heap.size = A
  have hA : ∀ q : Nat, s.heap.size ≤ q → A q := fun q h => by rw [← hAe]; exact Or.inr h
  have hAL : ∀ q ∈ L, A q := fun q h => by rw [← hAe]; exact Or.inl h
  have hAf : ∀ (H : Heap), s.heap.size ≤ H.size → ∀ q, tp_A L H.size q → A q := fun H h q hq => hq.elim (hAL q) (fun h2 => hA q (Nat.le_trans h h2))
  have hS : va_S A s.heap s.heap [] := va_S.rf
  have hD : va_D A (va_pl L f) := tp_D hL hAL
  have hfr : ∀ b, (K b).1 ∉ ([39, 43, 44, 52, 45, 46] : List Nat) → f b = f b := fun _ _ => rfl
  have hgr : ∀ κ : tk_K, κ.1 ∉ ([39, 43, 44, 52, 45, 46] : List Nat) → Γ κ = Γ κ := fun _ _ => rfl
  have hl := lv_entry ([.ref o, .int 1]) (n := 3) (Nat.le_of_ble_eq_true rfl)
  rw [lg_entry_eq]
  generalize (lg_sl ([.ref o, .int 1]) ++ List.replicate (3 - (lg_sl ([.ref o, .int 1])).length) Slot.unset).toArray = ls at hl ⊢
  have hl : lv_has ls 3 [(0, .ref o), (1, .int 1)] := hl
  obtain ⟨B0, hBi⟩ : ∃ y : Nat, (y : Int) = 48 * t0 + 4 * Γ (46, 22, 0) t0.toNat := ⟨(48 * t0 + 4 * Γ (46, 22, 0) t0.toNat).toNat, by omega⟩
  obtain ⟨A0, hA0⟩ : ∃ y : Int, y = Γ (44, 22, 0) t0.toNat := ⟨_, rfl⟩
  obtain ⟨a, ha2⟩ : ∃ y : Nat, y = (400 * t0 + Γ (44, 22, 0) t0.toNat).toNat := ⟨_, rfl⟩
  obtain ⟨d, hd2⟩ : ∃ y : Int, y = 0 := ⟨_, rfl⟩
  have hz : fz (Γ (43, 8800, 0)) (Γ (43, 8800, 0)) (Γ (44, 22, 0)) (Γ (44, 22, 0)) t0 := fz.rfl
  have hfw : fw (Γ (43, 8800, 0)) (Γ (43, 8800, 0)) (Γ (44, 22, 0)) (Γ (44, 22, 0)) t0 := fw.same
  have hp : ps (Γ (43, 8800, 0)) t0 (Γ (44, 22, 0) t0.toNat) (Γ (39, 0, 0) 1) T0 (Γ (39, 0, 0) 5) a (d) := by rw [hd2]; exact ⟨by omega, by omega, by omega, by omega, by rw [show (400 * t0 + Γ (44, 22, 0) t0.toNat).toNat - a = 0 from by omega]; exact rp0⟩
  have hO_MCL : Γ (45, 1056, 0) = Γ (45, 1056, 0) := rfl
  have hO_MCLS : Γ (46, 22, 0) = Γ (46, 22, 0) := rfl
  refine lv_aload_n hx hb dX12_clauseOf_0 rfl (lv_at hl 0 rfl) ?_
  obtain ⟨r_2, v_3, q_4, hf_1, hr_5, hv_6⟩ := (show tp_o_M L K 0 0 (Γ (39, 0, 0)) (f o) from hI.at ho)
  refine tq_cvR hS (hAf _ hS.1) (tq_rV (As := []) (rest := []) ⟨hx, hb, hml, hown, hta⟩ (tp_P.pre hK hN hL hU hI hP) (tp_recv hK hP ho.1 hf_1 rfl) lk_X12_178 (r_X12_passWord l D cy s.heap.size L K Γ f o τ T0 ho ht (by first | omega | (simp only [Int32.toInt_toInt64]; omega) | decide | assumption) (by first | omega | (simp only [Int32.toInt_toInt64]; omega) | decide | assumption)) rfl rfl ⟨Nat.le_of_ble_eq_true rfl, Nat.le_of_ble_eq_true rfl⟩ rfl hl.1 rfl (Nat.le_of_ble_eq_true rfl) dX12_clauseOf_1 ⟨Nat.le_of_ble_eq_true rfl, Nat.le_of_ble_eq_true rfl⟩) (fun f_17 Γ_19 H locs hw_15 hP hI hc_18 hcg_20 hS => ?_)
  have hD : va_D A (va_pl L f_17) := tp_D hL hAL
  have hfr := tp_fr2 hfr hc_18 (by decide)
  have hgr : ∀ κ : tk_K, κ.1 ∉ ([39, 43, 44, 52, 45, 46] : List Nat) → Γ_19 κ = Γ κ := tg_fr2 hgr hcg_20 (by decide)
  have wy_19_MLEN : Γ_19 (44, 22, 0) t0.toNat = Γ (44, 22, 0) t0.toNat := congrFun (hcg_20 (44, 22, 0) (by decide)) _
  have wy_19_MCLS : Γ_19 (46, 22, 0) t0.toNat = Γ (46, 22, 0) t0.toNat := congrFun (hcg_20 (46, 22, 0) (by decide)) _
  have hw_15 : Γ_19 (39, 0, 0) 0 = Γ (39, 0, 0) 0 ∧ Γ_19 (39, 0, 0) 3 = Γ (39, 0, 0) 3 ∧ Γ_19 (39, 0, 0) 4 = Γ (39, 0, 0) 4 ∧ Γ_19 (39, 0, 0) 5 = Γ (39, 0, 0) 5 ∧ Γ_19 (39, 0, 0) 6 = Γ (39, 0, 0) 6 ∧ Γ_19 (39, 0, 0) 7 = Γ (39, 0, 0) 7 ∧ Γ_19 (39, 0, 0) 8 = Γ (39, 0, 0) 8 ∧ Γ (39, 0, 0) 1 ≤ Γ_19 (39, 0, 0) 1 ∧ Γ_19 (39, 0, 0) 1 ≤ T0 ∧ (tr_L τ T0 (Γ (39, 0, 0) 1) → Γ (39, 0, 0) 1 + 1 ≤ Γ_19 (39, 0, 0) 1) := hw_15
  have hO_MCL : Γ_19 (45, 1056, 0) = Γ (45, 1056, 0) := (hcg_20 (45, 1056, 0) (by decide)).trans hO_MCL
  have hO_MCLS : Γ_19 (46, 22, 0) = Γ (46, 22, 0) := (hcg_20 (46, 22, 0) (by decide)).trans hO_MCLS
  obtain ⟨hpa, hpb, hpc, hpd, _⟩ := id hp
  have hle := congrFun (hcg_20 (44, 22, 0) (by decide)) t0.toNat
  have hp : ps (Γ_19 (43, 8800, 0)) t0 (Γ_19 (44, 22, 0) t0.toNat) (Γ_19 (39, 0, 0) 1) T0 (Γ_19 (39, 0, 0) 5) a (d) := hp.eq (hcg_20 (43, 8800, 0) (by decide)) rfl (congrFun (hcg_20 (44, 22, 0) (by decide)) _) (by omega) rfl (by omega)
  have hz : fz (Γ (43, 8800, 0)) (Γ_19 (43, 8800, 0)) (Γ (44, 22, 0)) (Γ_19 (44, 22, 0)) t0 := by rw [(hcg_20 (43, 8800, 0) (by decide)), (hcg_20 (44, 22, 0) (by decide))]; exact hz
  have hfw : fw (Γ (43, 8800, 0)) (Γ_19 (43, 8800, 0)) (Γ (44, 22, 0)) (Γ_19 (44, 22, 0)) t0 := by rw [(hcg_20 (43, 8800, 0) (by decide)), (hcg_20 (44, 22, 0) (by decide))]; exact hfw
  refine lv_bipush (v := 48) hx hb dX12_clauseOf_4 (by decide) ?_
  refine lv_aload_n hx hb dX12_clauseOf_6 rfl (lv_at hl 0 rfl) ?_
  obtain ⟨r_22, v_23, q_24, hf_21, hr_25, hv_26⟩ := (show tp_o_M L K 0 0 (Γ_19 (39, 0, 0)) (f_17 o) from hI.at ho)
  have hx_27 : (v_23 0).toInt = Γ_19 (39, 0, 0) 0 := hv_26 0 (by decide)
  have hx_28 : (v_23 1).toInt = Γ_19 (39, 0, 0) 1 := hv_26 1 (by decide)
  have hx_29 : (v_23 3).toInt = Γ_19 (39, 0, 0) 3 := hv_26 3 (by decide)
  have hx_30 : (v_23 4).toInt = Γ_19 (39, 0, 0) 4 := hv_26 4 (by decide)
  have hx_31 : (v_23 5).toInt = Γ_19 (39, 0, 0) 5 := hv_26 5 (by decide)
  have hx_32 : (v_23 6).toInt = Γ_19 (39, 0, 0) 6 := hv_26 6 (by decide)
  have hx_33 : (v_23 7).toInt = Γ_19 (39, 0, 0) 7 := hv_26 7 (by decide)
  have hx_34 : (v_23 8).toInt = Γ_19 (39, 0, 0) 8 := hv_26 8 (by decide)
  refine tp_get (cy := cy) (ci := 12) (v := .int (v_23 4)) (C := RX12) (T := TX12) (N := 49) hx hb hta inlX12 hown hK hP ho.1 hf_21 rfl 20 (by decide) (hta _ wk_537) (fun _ h9 => h9) rfl dX12_clauseOf_7 ?_
  refine lv_imul hx hb dX12_clauseOf_10 ?_
  refine lv_topi (fun z_35 ez_35 => ?_)
  try have iz_35 : z_35.toInt = (48 : Int) * (v_23 4).toInt := by rw [ez_35]; exact tl_mulN 48 (v_23 4) rfl rfl (by omega) (by omega)
  refine lv_iconst (v := 4) hx hb dX12_clauseOf_11 (by decide) ?_
  refine lv_aload_n hx hb dX12_clauseOf_12 rfl (lv_at hl 0 rfl) ?_
  refine tp_get (cy := cy) (ci := 12) (v := .ref (r_22 6)) (C := RX12) (T := TX12) (N := 49) hx hb hta inlX12 hown hK hP ho.1 hf_21 rfl 7 (by decide) (hta _ wk_156) (fun _ h9 => h9) rfl dX12_clauseOf_13 ?_
  refine lv_aload_n hx hb dX12_clauseOf_16 rfl (lv_at hl 0 rfl) ?_
  refine tp_get (cy := cy) (ci := 12) (v := .int (v_23 4)) (C := RX12) (T := TX12) (N := 49) hx hb hta inlX12 hown hK hP ho.1 hf_21 rfl 20 (by decide) (hta _ wk_537) (fun _ h9 => h9) rfl dX12_clauseOf_17 ?_
  obtain ⟨g_37, hf_36, hg_38⟩ := (show tp_gi cy (22) (Γ_19 (46, 22, 0)) (f_17 (r_22 6)) from hI.at (show tp_r L K 46 22 0 (r_22 6) from hr_25 6 (by decide)))
  have hn_39 : vp_in (v_23 4) (22) := tl_in (by omega) (by omega)
  refine tp_iald (cy := cy) hx hb hK hP (show tp_r L K 46 22 0 (r_22 6) from hr_25 6 (by decide)).1 hf_36 hn_39 dX12_clauseOf_20 ?_
  refine lv_topi (fun z_40 ez_40 => ?_)
  have iz_40 : z_40.toInt = Γ_19 (46, 22, 0) (v_23 4).toInt.toNat := by rw [ez_40]; exact hg_38 _ (tp_pin hn_39)
  have jz_40 : z_40.toInt = Γ_19 (46, 22, 0) t0.toNat := by rw [show t0 = (v_23 4).toInt from by omega]; exact iz_40
  refine lv_imul hx hb dX12_clauseOf_21 ?_
  refine lv_topi (fun z_41 ez_41 => ?_)
  try have iz_41 : z_41.toInt = (4 : Int) * z_40.toInt := by rw [ez_41]; exact tl_mulN 4 z_40 rfl rfl (by omega) (by omega)
  refine lv_iadd hx hb dX12_clauseOf_22 ?_
  refine lv_topi (fun z_42 ez_42 => ?_)
  try have iz_42 : z_42.toInt = z_35.toInt + z_41.toInt := by rw [ez_42]; exact tl_addN z_35 z_41 rfl rfl (by omega) (by omega)
  refine lv_istore_n (lv' := [(2, .int z_42), (0, .ref o), (1, .int 1)]) hx hb dX12_clauseOf_23 rfl hl (by decide) rfl (fun ls hl => ?_)
  refine lv_aload_n hx hb dX12_clauseOf_24 rfl (lv_at hl 1 rfl) ?_
  refine tp_get (cy := cy) (ci := 12) (v := .ref (r_22 5)) (C := RX12) (T := TX12) (N := 49) hx hb hta inlX12 hown hK hP ho.1 hf_21 rfl 6 (by decide) (hta _ wk_155) (fun _ h9 => h9) rfl dX12_clauseOf_25 ?_
  refine lv_iload_n hx hb dX12_clauseOf_28 rfl (lv_at hl 0 rfl) ?_
  refine lv_aload_n hx hb dX12_clauseOf_29 rfl (lv_at hl 1 rfl) ?_
  refine tp_get (cy := cy) (ci := 12) (v := .ref (r_22 4)) (C := RX12) (T := TX12) (N := 49) hx hb hta inlX12 hown hK hP ho.1 hf_21 rfl 5 (by decide) (hta _ wk_154) (fun _ h9 => h9) rfl dX12_clauseOf_30 ?_
  refine lv_aload_n hx hb dX12_clauseOf_33 rfl (lv_at hl 1 rfl) ?_
  refine tp_get (cy := cy) (ci := 12) (v := .int (v_23 4)) (C := RX12) (T := TX12) (N := 49) hx hb hta inlX12 hown hK hP ho.1 hf_21 rfl 20 (by decide) (hta _ wk_537) (fun _ h9 => h9) rfl dX12_clauseOf_34 ?_
  obtain ⟨g_44, hf_43, hg_45⟩ := (show tp_gi cy (22) (Γ_19 (44, 22, 0)) (f_17 (r_22 4)) from hI.at (show tp_r L K 44 22 0 (r_22 4) from hr_25 4 (by decide)))
  have hn_46 : vp_in (v_23 4) (22) := tl_in (by omega) (by omega)
  refine tp_iald (cy := cy) hx hb hK hP (show tp_r L K 44 22 0 (r_22 4) from hr_25 4 (by decide)).1 hf_43 hn_46 dX12_clauseOf_37 ?_
  refine lv_topi (fun z_47 ez_47 => ?_)
  have iz_47 : z_47.toInt = Γ_19 (44, 22, 0) (v_23 4).toInt.toNat := by rw [ez_47]; exact hg_45 _ (tp_pin hn_46)
  have jz_47 : z_47.toInt = Γ_19 (44, 22, 0) t0.toNat := by rw [show t0 = (v_23 4).toInt from by omega]; exact iz_47
  obtain ⟨g_49, hf_48, hg_50⟩ := (show tp_gi cy (1056) (Γ_19 (45, 1056, 0)) (f_17 (r_22 5)) from hI.at (show tp_r L K 45 1056 0 (r_22 5) from hr_25 5 (by decide)))
  have hn_51 : vp_in z_42 (1056) := tl_in (by omega) (by omega)
  have hj_52 : z_42.toNatClampNeg = (B0 + 0) := by show z_42.toInt.toNat = _; omega
  have hv_53 : z_47.toInt = A0 := by omega
  obtain ⟨Γ_54, eΓ_54⟩ : ∃ y : tk_G, y = tg Γ_19 (45, 1056, 0) (B0 + 0) A0 := ⟨_, rfl⟩
  have hI9 : tp_I cy L K Γ_54 (va_up f_17 (r_22 5) (.inl (cy 0, 1056, .inl (upd g_49 z_42.toNatClampNeg z_47)))) := by have q9 : tg Γ_19 (45, 1056, 0) (B0 + 0) A0 = tg Γ_19 (45, 1056, 0) z_42.toNatClampNeg z_47.toInt := (by rw [hj_52, hv_53]); rw [eΓ_54, q9]; exact hI.setg hU rfl (show tp_r L K 45 1056 0 (r_22 5) from hr_25 5 (by decide)) (show tp_gi cy (1056) (tgu (Γ_19 (45, 1056, 0)) _ _) _ from ⟨_, rfl, tp_gi_upd hg_50⟩)
  have hfr9 : ∀ b, (K b).1 ∉ ([39, 43, 44, 52, 45, 46] : List Nat) → va_up f_17 (r_22 5) (.inl (cy 0, 1056, .inl (upd g_49 z_42.toNatClampNeg z_47))) b = f b := tp_fr hfr (show tp_r L K 45 1056 0 (r_22 5) from hr_25 5 (by decide)) (by decide)
  refine tp_iast (cy := cy) hx hb hK hP hD hS (show tp_r L K 45 1056 0 (r_22 5) from hr_25 5 (by decide)).1 hf_48 hn_51 dX12_clauseOf_38 (fun H locs hP hD hS => ?_)
  have hP : va_P D vwCl (va_pl L (va_up f_17 (r_22 5) (.inl (cy 0, 1056, .inl (upd g_49 z_42.toNatClampNeg z_47))))) H := hP
  generalize hfe : va_up f_17 (r_22 5) (.inl (cy 0, 1056, .inl (upd g_49 z_42.toNatClampNeg z_47))) = f_55 at hP hI9 hfr9
  have hD : va_D A (va_pl L f_55) := tp_D hL hAL
  have hf_56 := (show f_55 o = _ from by rw [← hfe, va_up_ne _ _ (tp_ne ho (show tp_r L K 45 1056 0 (r_22 5) from hr_25 5 (by decide)) (by decide))]).trans hf_21
  have hf_57 := (show f_55 (r_22 6) = _ from by rw [← hfe, va_up_ne _ _ (tp_ne (show tp_r L K 46 22 0 (r_22 6) from hr_25 6 (by decide)) (show tp_r L K 45 1056 0 (r_22 5) from hr_25 5 (by decide)) (by decide))]).trans hf_36
  have hf_58 := (show f_55 (r_22 4) = _ from by rw [← hfe, va_up_ne _ _ (tp_ne (show tp_r L K 44 22 0 (r_22 4) from hr_25 4 (by decide)) (show tp_r L K 45 1056 0 (r_22 5) from hr_25 5 (by decide)) (by decide))]).trans hf_43
  have hf_59 : f_55 (r_22 5) = .inl (cy 0, 1056, .inl (upd g_49 z_42.toNatClampNeg z_47)) := by rw [← hfe]; exact va_up_self _ _ _
  clear hfe
  have hI := hI9
  have hfr := hfr9
  clear hI9 hfr9
  clear hj_52 hv_53
  have wxΓ_54_MLEN : Γ_54 (44, 22, 0) t0.toNat = Γ_19 (44, 22, 0) t0.toNat := by rw [eΓ_54, tg_r (by decide)]
  have wxΓ_54_MCLS : Γ_54 (46, 22, 0) t0.toNat = Γ_19 (46, 22, 0) t0.toNat := by rw [eΓ_54, tg_r (by decide)]
  have wsΓ_54 : Γ_54 (45, 1056, 0) (B0 + 0) = A0 := by rw [eΓ_54]; exact tg_s
  have hgr : ∀ κ : tk_K, κ.1 ∉ ([39, 43, 44, 52, 45, 46] : List Nat) → Γ_54 κ = Γ κ := tg_fr hgr eΓ_54 (by decide)
  have hv_60 : ∀ i : Nat, i < 16 → (v_23 i).toInt = Γ_54 (39, 0, 0) i := fun i hi => by rw [eΓ_54, tg_r (by decide)]; exact hv_26 i hi
  have hx_61 : (v_23 0).toInt = Γ_54 (39, 0, 0) 0 := hv_60 0 (by decide)
  have hx_62 : (v_23 1).toInt = Γ_54 (39, 0, 0) 1 := hv_60 1 (by decide)
  have hx_63 : (v_23 3).toInt = Γ_54 (39, 0, 0) 3 := hv_60 3 (by decide)
  have hx_64 : (v_23 4).toInt = Γ_54 (39, 0, 0) 4 := hv_60 4 (by decide)
  have hx_65 : (v_23 5).toInt = Γ_54 (39, 0, 0) 5 := hv_60 5 (by decide)
  have hx_66 : (v_23 6).toInt = Γ_54 (39, 0, 0) 6 := hv_60 6 (by decide)
  have hx_67 : (v_23 7).toInt = Γ_54 (39, 0, 0) 7 := hv_60 7 (by decide)
  have hx_68 : (v_23 8).toInt = Γ_54 (39, 0, 0) 8 := hv_60 8 (by decide)
  have hg_69 : ∀ j : Nat, j < 22 → (g_37 j).toInt = Γ_54 (46, 22, 0) j := fun j hj => by rw [eΓ_54, tg_r (by decide)]; exact hg_38 j hj
  have hg_70 : ∀ j : Nat, j < 22 → (g_44 j).toInt = Γ_54 (44, 22, 0) j := fun j hj => by rw [eΓ_54, tg_r (by decide)]; exact hg_45 j hj
  have hO_MCL : Γ_54 (45, 1056, 0) = tgu (Γ (45, 1056, 0)) (B0 + 0) (A0) := by rw [eΓ_54, tg_f, hO_MCL]
  have hO_MCLS : Γ_54 (46, 22, 0) = Γ (46, 22, 0) := by rw [eΓ_54, tg_rf (by decide)]; exact hO_MCLS
  obtain ⟨hpa, hpb, hpc, hpd, _⟩ := id hp
  have hle := congrFun (show Γ_54 (44, 22, 0) = _ from by rw [eΓ_54, tg_rf (by decide)]) t0.toNat
  have hp : ps (Γ_54 (43, 8800, 0)) t0 (Γ_54 (44, 22, 0) t0.toNat) (Γ_54 (39, 0, 0) 1) T0 (Γ_54 (39, 0, 0) 5) a (d) := hp.eq (show Γ_54 (43, 8800, 0) = _ from by rw [eΓ_54, tg_rf (by decide)]) rfl (congrFun (show Γ_54 (44, 22, 0) = _ from by rw [eΓ_54, tg_rf (by decide)]) _) (by omega) rfl (by omega)
  have hz : fz (Γ (43, 8800, 0)) (Γ_54 (43, 8800, 0)) (Γ (44, 22, 0)) (Γ_54 (44, 22, 0)) t0 := by rw [(show Γ_54 (43, 8800, 0) = _ from by rw [eΓ_54, tg_rf (by decide)]), (show Γ_54 (44, 22, 0) = _ from by rw [eΓ_54, tg_rf (by decide)])]; exact hz
  have hfw : fw (Γ (43, 8800, 0)) (Γ_54 (43, 8800, 0)) (Γ (44, 22, 0)) (Γ_54 (44, 22, 0)) t0 := by rw [(show Γ_54 (43, 8800, 0) = _ from by rw [eΓ_54, tg_rf (by decide)]), (show Γ_54 (44, 22, 0) = _ from by rw [eΓ_54, tg_rf (by decide)])]; exact hfw
  refine lv_iload_n hx hb dX12_clauseOf_39 rfl (lv_at hl 2 rfl) ?_
  refine lv_if_eq (tgt := 52) hx hb dX12_clauseOf_40 (by decide) (fun c => absurd c (by decide)) (fun _ => ?_)
  refine lv_aload_n hx hb dX12_clauseOf_43 rfl (lv_at hl 1 rfl) ?_
  refine tq_ciR hS (hAf _ hS.1) (tq_rV (As := []) (rest := []) ⟨hx, hb, hml, hown, hta⟩ (tp_P.pre hK hN hL hU hI hP) (tp_recv hK hP ho.1 hf_56 rfl) lk_X12_249 (r_X12_sum l D cy H.size L K Γ_54 f_55 o τ T0 t0 a d ho ((hgr _ (by decide)).trans ht) (by first | omega | (simp only [Int32.toInt_toInt64]; omega) | decide | assumption) (by first | omega | (simp only [Int32.toInt_toInt64]; omega) | decide | assumption) (by first | omega | (simp only [Int32.toInt_toInt64]; omega) | decide | assumption) (by first | omega | (simp only [Int32.toInt_toInt64]; omega) | decide | assumption)) rfl rfl ⟨Nat.le_of_ble_eq_true rfl, Nat.le_of_ble_eq_true rfl⟩ rfl hl.1 rfl (Nat.le_of_ble_eq_true rfl) dX12_clauseOf_44 ⟨Nat.le_of_ble_eq_true rfl, Nat.le_of_ble_eq_true rfl⟩) (fun r_72 f_73 Γ_75 H locs hw_71 hP hI hc_74 hcg_76 hS => ?_)
  have hD : va_D A (va_pl L f_73) := tp_D hL hAL
  have hfr := tp_fr2 hfr hc_74 (by decide)
  have hgr : ∀ κ : tk_K, κ.1 ∉ ([39, 43, 44, 52, 45, 46] : List Nat) → Γ_75 κ = Γ κ := tg_fr2 hgr hcg_76 (by decide)
  have hf_77 := (tp_un hc_74 (show tp_r L K 46 22 0 (r_22 6) from hr_25 6 (by decide)) (by decide)).trans hf_57
  have hg_78 : ∀ j : Nat, j < 22 → (g_37 j).toInt = Γ_75 (46, 22, 0) j := fun j hj => by rw [hcg_76 _ (by decide)]; exact hg_69 j hj
  have wy_75_MCLS : Γ_75 (46, 22, 0) t0.toNat = Γ_54 (46, 22, 0) t0.toNat := congrFun (hcg_76 (46, 22, 0) (by decide)) _
  obtain ⟨hE_79, hw_71⟩ := hw_71
  have hE_79 : tl_J r_72 (ps (Γ_75 (43, 8800, 0)) t0 (Γ_75 (44, 22, 0) t0.toNat) (Γ_75 (39, 0, 0) 1) T0 (Γ_75 (39, 0, 0) 5) a (d + 1) ∧ Γ_54 (39, 0, 0) 1 - Γ_54 (44, 22, 0) t0.toNat ≤ Γ_75 (39, 0, 0) 1 - Γ_75 (44, 22, 0) t0.toNat ∧ fz (Γ_54 (43, 8800, 0)) (Γ_75 (43, 8800, 0)) (Γ_54 (44, 22, 0)) (Γ_75 (44, 22, 0)) t0) := hE_79
  have hw_71 : Γ_75 (39, 0, 0) 0 = Γ_54 (39, 0, 0) 0 ∧ Γ_75 (39, 0, 0) 4 = Γ_54 (39, 0, 0) 4 ∧ Γ_75 (39, 0, 0) 6 = Γ_54 (39, 0, 0) 6 ∧ Γ_75 (39, 0, 0) 7 = Γ_54 (39, 0, 0) 7 ∧ Γ_75 (39, 0, 0) 8 = Γ_54 (39, 0, 0) 8 ∧ Γ_54 (39, 0, 0) 1 ≤ Γ_75 (39, 0, 0) 1 ∧ Γ_75 (39, 0, 0) 1 ≤ T0 ∧ fw (Γ_54 (43, 8800, 0)) (Γ_75 (43, 8800, 0)) (Γ_54 (44, 22, 0)) (Γ_75 (44, 22, 0)) t0 := hw_71
  have hO_MCL : Γ_75 (45, 1056, 0) = tgu (Γ (45, 1056, 0)) (B0 + 0) (A0) := (hcg_76 (45, 1056, 0) (by decide)).trans hO_MCL
  have hO_MCLS : Γ_75 (46, 22, 0) = Γ (46, 22, 0) := (hcg_76 (46, 22, 0) (by decide)).trans hO_MCLS
  have hfw := hfw.trans hw_71.2.2.2.2.2.2.2
  refine lv_if_ne (tgt := 52) hx hb dX12_clauseOf_47 (by decide) (fun c_80 => ?_) (fun c_80 => ?_)
  · have c_80 := hE_79.t c_80
    obtain ⟨hp, hsl, hz9⟩ := c_80
    have hz := hz.trans hz9
    obtain ⟨_, hL1, hM1, _, hrpS⟩ := id hp
    obtain ⟨A1, hA1⟩ : ∃ y : Int, y = Γ_75 (44, 22, 0) t0.toNat := ⟨_, rfl⟩
    have hl01 : A0 ≤ A1 := by have q9 := hz.2.1; omega
    have hS1 : rp (Γ_75 (43, 8800, 0)) (400 * t0 + A0).toNat (A1 - A0).toNat 1 := by have q9 := hrpS; rw [show d + 1 = 1 from by omega, show (400 * t0 + Γ_75 (44, 22, 0) t0.toNat).toNat - a = (A1 - A0).toNat from by omega, show a = (400 * t0 + A0).toNat from by omega] at q9; exact q9
    have hO_SIGN : Γ_75 (43, 8800, 0) = Γ_75 (43, 8800, 0) := rfl
    refine lv_aload_n hx hb dX12_clauseOf_52 rfl (lv_at hl 1 rfl) ?_
    obtain ⟨r_82, v_83, q_84, hf_81, hr_85, hv_86⟩ := (show tp_o_M L K 0 0 (Γ_75 (39, 0, 0)) (f_73 o) from hI.at ho)
    have hx_87 : (v_83 0).toInt = Γ_75 (39, 0, 0) 0 := hv_86 0 (by decide)
    have hx_88 : (v_83 1).toInt = Γ_75 (39, 0, 0) 1 := hv_86 1 (by decide)
    have hx_89 : (v_83 3).toInt = Γ_75 (39, 0, 0) 3 := hv_86 3 (by decide)
    have hx_90 : (v_83 4).toInt = Γ_75 (39, 0, 0) 4 := hv_86 4 (by decide)
    have hx_91 : (v_83 5).toInt = Γ_75 (39, 0, 0) 5 := hv_86 5 (by decide)
    have hx_92 : (v_83 6).toInt = Γ_75 (39, 0, 0) 6 := hv_86 6 (by decide)
    have hx_93 : (v_83 7).toInt = Γ_75 (39, 0, 0) 7 := hv_86 7 (by decide)
    have hx_94 : (v_83 8).toInt = Γ_75 (39, 0, 0) 8 := hv_86 8 (by decide)
    refine tp_get (cy := cy) (ci := 12) (v := .ref (r_82 5)) (C := RX12) (T := TX12) (N := 49) hx hb hta inlX12 hown hK hP ho.1 hf_81 rfl 6 (by decide) (hta _ wk_155) (fun _ h9 => h9) rfl dX12_clauseOf_53 ?_
    refine lv_iload_n hx hb dX12_clauseOf_56 rfl (lv_at hl 0 rfl) ?_
    refine lv_iconst (v := 1) hx hb dX12_clauseOf_57 (by decide) ?_
    refine lv_iadd hx hb dX12_clauseOf_58 ?_
    refine lv_topi (fun z_95 ez_95 => ?_)
    try have iz_95 : z_95.toInt = z_42.toInt + (1 : Int) := by rw [ez_95]; exact tl_addN z_42 1 rfl rfl (by omega) (by omega)
    refine lv_aload_n hx hb dX12_clauseOf_59 rfl (lv_at hl 1 rfl) ?_
    refine tp_get (cy := cy) (ci := 12) (v := .ref (r_82 4)) (C := RX12) (T := TX12) (N := 49) hx hb hta inlX12 hown hK hP ho.1 hf_81 rfl 5 (by decide) (hta _ wk_154) (fun _ h9 => h9) rfl dX12_clauseOf_60 ?_
    refine lv_aload_n hx hb dX12_clauseOf_63 rfl (lv_at hl 1 rfl) ?_
    refine tp_get (cy := cy) (ci := 12) (v := .int (v_83 4)) (C := RX12) (T := TX12) (N := 49) hx hb hta inlX12 hown hK hP ho.1 hf_81 rfl 20 (by decide) (hta _ wk_537) (fun _ h9 => h9) rfl dX12_clauseOf_64 ?_
    obtain ⟨g_97, hf_96, hg_98⟩ := (show tp_gi cy (22) (Γ_75 (44, 22, 0)) (f_73 (r_82 4)) from hI.at (show tp_r L K 44 22 0 (r_82 4) from hr_85 4 (by decide)))
    have hn_99 : vp_in (v_83 4) (22) := tl_in (by omega) (by omega)
    refine tp_iald (cy := cy) hx hb hK hP (show tp_r L K 44 22 0 (r_82 4) from hr_85 4 (by decide)).1 hf_96 hn_99 dX12_clauseOf_67 ?_
    refine lv_topi (fun z_100 ez_100 => ?_)
    have iz_100 : z_100.toInt = Γ_75 (44, 22, 0) (v_83 4).toInt.toNat := by rw [ez_100]; exact hg_98 _ (tp_pin hn_99)
    have jz_100 : z_100.toInt = Γ_75 (44, 22, 0) t0.toNat := by rw [show t0 = (v_83 4).toInt from by omega]; exact iz_100
    obtain ⟨g_102, hf_101, hg_103⟩ := (show tp_gi cy (1056) (Γ_75 (45, 1056, 0)) (f_73 (r_82 5)) from hI.at (show tp_r L K 45 1056 0 (r_82 5) from hr_85 5 (by decide)))
    have hn_104 : vp_in z_95 (1056) := tl_in (by omega) (by omega)
    have hj_105 : z_95.toNatClampNeg = (B0 + 1) := by show z_95.toInt.toNat = _; omega
    have hv_106 : z_100.toInt = A1 := by omega
    obtain ⟨Γ_107, eΓ_107⟩ : ∃ y : tk_G, y = tg Γ_75 (45, 1056, 0) (B0 + 1) A1 := ⟨_, rfl⟩
    have hI9 : tp_I cy L K Γ_107 (va_up f_73 (r_82 5) (.inl (cy 0, 1056, .inl (upd g_102 z_95.toNatClampNeg z_100)))) := by have q9 : tg Γ_75 (45, 1056, 0) (B0 + 1) A1 = tg Γ_75 (45, 1056, 0) z_95.toNatClampNeg z_100.toInt := (by rw [hj_105, hv_106]); rw [eΓ_107, q9]; exact hI.setg hU rfl (show tp_r L K 45 1056 0 (r_82 5) from hr_85 5 (by decide)) (show tp_gi cy (1056) (tgu (Γ_75 (45, 1056, 0)) _ _) _ from ⟨_, rfl, tp_gi_upd hg_103⟩)
    have hfr9 : ∀ b, (K b).1 ∉ ([39, 43, 44, 52, 45, 46] : List Nat) → va_up f_73 (r_82 5) (.inl (cy 0, 1056, .inl (upd g_102 z_95.toNatClampNeg z_100))) b = f b := tp_fr hfr (show tp_r L K 45 1056 0 (r_82 5) from hr_85 5 (by decide)) (by decide)
    refine tp_iast (cy := cy) hx hb hK hP hD hS (show tp_r L K 45 1056 0 (r_82 5) from hr_85 5 (by decide)).1 hf_101 hn_104 dX12_clauseOf_68 (fun H locs hP hD hS => ?_)
    have hP : va_P D vwCl (va_pl L (va_up f_73 (r_82 5) (.inl (cy 0, 1056, .inl (upd g_102 z_95.toNatClampNeg z_100))))) H := hP
    generalize hfe : va_up f_73 (r_82 5) (.inl (cy 0, 1056, .inl (upd g_102 z_95.toNatClampNeg z_100))) = f_108 at hP hI9 hfr9
    have hD : va_D A (va_pl L f_108) := tp_D hL hAL
    have hf_109 := (show f_108 (r_22 6) = _ from by rw [← hfe, va_up_ne _ _ (tp_ne (show tp_r L K 46 22 0 (r_22 6) from hr_25 6 (by decide)) (show tp_r L K 45 1056 0 (r_82 5) from hr_85 5 (by decide)) (by decide))]).trans hf_77
    have hf_110 := (show f_108 o = _ from by rw [← hfe, va_up_ne _ _ (tp_ne ho (show tp_r L K 45 1056 0 (r_82 5) from hr_85 5 (by decide)) (by decide))]).trans hf_81
    have hf_111 := (show f_108 (r_82 4) = _ from by rw [← hfe, va_up_ne _ _ (tp_ne (show tp_r L K 44 22 0 (r_82 4) from hr_85 4 (by decide)) (show tp_r L K 45 1056 0 (r_82 5) from hr_85 5 (by decide)) (by decide))]).trans hf_96
    have hf_112 : f_108 (r_82 5) = .inl (cy 0, 1056, .inl (upd g_102 z_95.toNatClampNeg z_100)) := by rw [← hfe]; exact va_up_self _ _ _
    clear hfe
    have hI := hI9
    have hfr := hfr9
    clear hI9 hfr9
    clear hj_105 hv_106
    have wxΓ_107_MLEN : Γ_107 (44, 22, 0) t0.toNat = Γ_75 (44, 22, 0) t0.toNat := by rw [eΓ_107, tg_r (by decide)]
    have wxΓ_107_MCLS : Γ_107 (46, 22, 0) t0.toNat = Γ_75 (46, 22, 0) t0.toNat := by rw [eΓ_107, tg_r (by decide)]
    have wsΓ_107 : Γ_107 (45, 1056, 0) (B0 + 1) = A1 := by rw [eΓ_107]; exact tg_s
    have hgr : ∀ κ : tk_K, κ.1 ∉ ([39, 43, 44, 52, 45, 46] : List Nat) → Γ_107 κ = Γ κ := tg_fr hgr eΓ_107 (by decide)
    have hg_113 : ∀ j : Nat, j < 22 → (g_37 j).toInt = Γ_107 (46, 22, 0) j := fun j hj => by rw [eΓ_107, tg_r (by decide)]; exact hg_78 j hj
    have hv_114 : ∀ i : Nat, i < 16 → (v_83 i).toInt = Γ_107 (39, 0, 0) i := fun i hi => by rw [eΓ_107, tg_r (by decide)]; exact hv_86 i hi
    have hx_115 : (v_83 0).toInt = Γ_107 (39, 0, 0) 0 := hv_114 0 (by decide)
    have hx_116 : (v_83 1).toInt = Γ_107 (39, 0, 0) 1 := hv_114 1 (by decide)
    have hx_117 : (v_83 3).toInt = Γ_107 (39, 0, 0) 3 := hv_114 3 (by decide)
    have hx_118 : (v_83 4).toInt = Γ_107 (39, 0, 0) 4 := hv_114 4 (by decide)
    have hx_119 : (v_83 5).toInt = Γ_107 (39, 0, 0) 5 := hv_114 5 (by decide)
    have hx_120 : (v_83 6).toInt = Γ_107 (39, 0, 0) 6 := hv_114 6 (by decide)
    have hx_121 : (v_83 7).toInt = Γ_107 (39, 0, 0) 7 := hv_114 7 (by decide)
    have hx_122 : (v_83 8).toInt = Γ_107 (39, 0, 0) 8 := hv_114 8 (by decide)
    have hg_123 : ∀ j : Nat, j < 22 → (g_97 j).toInt = Γ_107 (44, 22, 0) j := fun j hj => by rw [eΓ_107, tg_r (by decide)]; exact hg_98 j hj
    have hO_MCL : Γ_107 (45, 1056, 0) = tgu (tgu (Γ (45, 1056, 0)) (B0 + 0) (A0)) (B0 + 1) (A1) := by rw [eΓ_107, tg_f, hO_MCL]
    have hO_MCLS : Γ_107 (46, 22, 0) = Γ (46, 22, 0) := by rw [eΓ_107, tg_rf (by decide)]; exact hO_MCLS
    have hO_SIGN : Γ_107 (43, 8800, 0) = Γ_75 (43, 8800, 0) := by rw [eΓ_107, tg_rf (by decide)]
    obtain ⟨hpa, hpb, hpc, hpd, _⟩ := id hp
    have hle := congrFun (show Γ_107 (44, 22, 0) = _ from by rw [eΓ_107, tg_rf (by decide)]) t0.toNat
    have hp : ps (Γ_107 (43, 8800, 0)) t0 (Γ_107 (44, 22, 0) t0.toNat) (Γ_107 (39, 0, 0) 1) T0 (Γ_107 (39, 0, 0) 5) a (d + 1) := hp.eq (show Γ_107 (43, 8800, 0) = _ from by rw [eΓ_107, tg_rf (by decide)]) rfl (congrFun (show Γ_107 (44, 22, 0) = _ from by rw [eΓ_107, tg_rf (by decide)]) _) (by omega) rfl (by omega)
    have hz : fz (Γ (43, 8800, 0)) (Γ_107 (43, 8800, 0)) (Γ (44, 22, 0)) (Γ_107 (44, 22, 0)) t0 := by rw [(show Γ_107 (43, 8800, 0) = _ from by rw [eΓ_107, tg_rf (by decide)]), (show Γ_107 (44, 22, 0) = _ from by rw [eΓ_107, tg_rf (by decide)])]; exact hz
    have hfw : fw (Γ (43, 8800, 0)) (Γ_107 (43, 8800, 0)) (Γ (44, 22, 0)) (Γ_107 (44, 22, 0)) t0 := by rw [(show Γ_107 (43, 8800, 0) = _ from by rw [eΓ_107, tg_rf (by decide)]), (show Γ_107 (44, 22, 0) = _ from by rw [eΓ_107, tg_rf (by decide)])]; exact hfw
    refine lv_aload_n hx hb dX12_clauseOf_69 rfl (lv_at hl 1 rfl) ?_
    refine tp_get (cy := cy) (ci := 12) (v := .ref (r_82 5)) (C := RX12) (T := TX12) (N := 49) hx hb hta inlX12 hown hK hP ho.1 hf_110 rfl 6 (by decide) (hta _ wk_155) (fun _ h9 => h9) rfl dX12_clauseOf_70 ?_
    refine lv_iload_n hx hb dX12_clauseOf_73 rfl (lv_at hl 0 rfl) ?_
    refine lv_iconst (v := 2) hx hb dX12_clauseOf_74 (by decide) ?_
    refine lv_iadd hx hb dX12_clauseOf_75 ?_
    refine lv_topi (fun z_124 ez_124 => ?_)
    try have iz_124 : z_124.toInt = z_42.toInt + (2 : Int) := by rw [ez_124]; exact tl_addN z_42 2 rfl rfl (by omega) (by omega)
    refine lv_iconst (v := (-1)) hx hb dX12_clauseOf_76 (by decide) ?_
    obtain ⟨g_126, hf_125, hg_127⟩ := (show tp_gi cy (1056) (Γ_107 (45, 1056, 0)) (f_108 (r_82 5)) from hI.at (show tp_r L K 45 1056 0 (r_82 5) from hr_85 5 (by decide)))
    have hn_128 : vp_in z_124 (1056) := tl_in (by omega) (by omega)
    have hj_129 : z_124.toNatClampNeg = (B0 + 2) := by show z_124.toInt.toNat = _; omega
    have hv_130 : ((-1) : Int32).toInt = (-1 : Int) := by decide
    obtain ⟨Γ_131, eΓ_131⟩ : ∃ y : tk_G, y = tg Γ_107 (45, 1056, 0) (B0 + 2) (-1 : Int) := ⟨_, rfl⟩
    have hI9 : tp_I cy L K Γ_131 (va_up f_108 (r_82 5) (.inl (cy 0, 1056, .inl (upd g_126 z_124.toNatClampNeg (-1))))) := by have q9 : tg Γ_107 (45, 1056, 0) (B0 + 2) (-1 : Int) = tg Γ_107 (45, 1056, 0) z_124.toNatClampNeg ((-1) : Int32).toInt := (by rw [hj_129, hv_130]); rw [eΓ_131, q9]; exact hI.setg hU rfl (show tp_r L K 45 1056 0 (r_82 5) from hr_85 5 (by decide)) (show tp_gi cy (1056) (tgu (Γ_107 (45, 1056, 0)) _ _) _ from ⟨_, rfl, tp_gi_upd hg_127⟩)
    have hfr9 : ∀ b, (K b).1 ∉ ([39, 43, 44, 52, 45, 46] : List Nat) → va_up f_108 (r_82 5) (.inl (cy 0, 1056, .inl (upd g_126 z_124.toNatClampNeg (-1)))) b = f b := tp_fr hfr (show tp_r L K 45 1056 0 (r_82 5) from hr_85 5 (by decide)) (by decide)
    refine tp_iast (cy := cy) hx hb hK hP hD hS (show tp_r L K 45 1056 0 (r_82 5) from hr_85 5 (by decide)).1 hf_125 hn_128 dX12_clauseOf_77 (fun H locs hP hD hS => ?_)
    have hP : va_P D vwCl (va_pl L (va_up f_108 (r_82 5) (.inl (cy 0, 1056, .inl (upd g_126 z_124.toNatClampNeg (-1)))))) H := hP
    generalize hfe : va_up f_108 (r_82 5) (.inl (cy 0, 1056, .inl (upd g_126 z_124.toNatClampNeg (-1)))) = f_132 at hP hI9 hfr9
    have hD : va_D A (va_pl L f_132) := tp_D hL hAL
    have hf_133 := (show f_132 (r_22 6) = _ from by rw [← hfe, va_up_ne _ _ (tp_ne (show tp_r L K 46 22 0 (r_22 6) from hr_25 6 (by decide)) (show tp_r L K 45 1056 0 (r_82 5) from hr_85 5 (by decide)) (by decide))]).trans hf_109
    have hf_134 := (show f_132 o = _ from by rw [← hfe, va_up_ne _ _ (tp_ne ho (show tp_r L K 45 1056 0 (r_82 5) from hr_85 5 (by decide)) (by decide))]).trans hf_110
    have hf_135 := (show f_132 (r_82 4) = _ from by rw [← hfe, va_up_ne _ _ (tp_ne (show tp_r L K 44 22 0 (r_82 4) from hr_85 4 (by decide)) (show tp_r L K 45 1056 0 (r_82 5) from hr_85 5 (by decide)) (by decide))]).trans hf_111
    have hf_136 : f_132 (r_82 5) = .inl (cy 0, 1056, .inl (upd g_126 z_124.toNatClampNeg (-1))) := by rw [← hfe]; exact va_up_self _ _ _
    clear hfe
    have hI := hI9
    have hfr := hfr9
    clear hI9 hfr9
    clear hj_129 hv_130
    have wxΓ_131_MLEN : Γ_131 (44, 22, 0) t0.toNat = Γ_107 (44, 22, 0) t0.toNat := by rw [eΓ_131, tg_r (by decide)]
    have wxΓ_131_MCLS : Γ_131 (46, 22, 0) t0.toNat = Γ_107 (46, 22, 0) t0.toNat := by rw [eΓ_131, tg_r (by decide)]
    have wsΓ_131 : Γ_131 (45, 1056, 0) (B0 + 2) = (-1 : Int) := by rw [eΓ_131]; exact tg_s
    have hgr : ∀ κ : tk_K, κ.1 ∉ ([39, 43, 44, 52, 45, 46] : List Nat) → Γ_131 κ = Γ κ := tg_fr hgr eΓ_131 (by decide)
    have hg_137 : ∀ j : Nat, j < 22 → (g_37 j).toInt = Γ_131 (46, 22, 0) j := fun j hj => by rw [eΓ_131, tg_r (by decide)]; exact hg_113 j hj
    have hv_138 : ∀ i : Nat, i < 16 → (v_83 i).toInt = Γ_131 (39, 0, 0) i := fun i hi => by rw [eΓ_131, tg_r (by decide)]; exact hv_114 i hi
    have hx_139 : (v_83 0).toInt = Γ_131 (39, 0, 0) 0 := hv_138 0 (by decide)
    have hx_140 : (v_83 1).toInt = Γ_131 (39, 0, 0) 1 := hv_138 1 (by decide)
    have hx_141 : (v_83 3).toInt = Γ_131 (39, 0, 0) 3 := hv_138 3 (by decide)
    have hx_142 : (v_83 4).toInt = Γ_131 (39, 0, 0) 4 := hv_138 4 (by decide)
    have hx_143 : (v_83 5).toInt = Γ_131 (39, 0, 0) 5 := hv_138 5 (by decide)
    have hx_144 : (v_83 6).toInt = Γ_131 (39, 0, 0) 6 := hv_138 6 (by decide)
    have hx_145 : (v_83 7).toInt = Γ_131 (39, 0, 0) 7 := hv_138 7 (by decide)
    have hx_146 : (v_83 8).toInt = Γ_131 (39, 0, 0) 8 := hv_138 8 (by decide)
    have hg_147 : ∀ j : Nat, j < 22 → (g_97 j).toInt = Γ_131 (44, 22, 0) j := fun j hj => by rw [eΓ_131, tg_r (by decide)]; exact hg_123 j hj
    have hO_MCL : Γ_131 (45, 1056, 0) = tgu (tgu (tgu (Γ (45, 1056, 0)) (B0 + 0) (A0)) (B0 + 1) (A1)) (B0 + 2) ((-1 : Int)) := by rw [eΓ_131, tg_f, hO_MCL]
    have hO_MCLS : Γ_131 (46, 22, 0) = Γ (46, 22, 0) := by rw [eΓ_131, tg_rf (by decide)]; exact hO_MCLS
    have hO_SIGN : Γ_131 (43, 8800, 0) = Γ_75 (43, 8800, 0) := by rw [eΓ_131, tg_rf (by decide)]; exact hO_SIGN
    obtain ⟨hpa, hpb, hpc, hpd, _⟩ := id hp
    have hle := congrFun (show Γ_131 (44, 22, 0) = _ from by rw [eΓ_131, tg_rf (by decide)]) t0.toNat
    have hp : ps (Γ_131 (43, 8800, 0)) t0 (Γ_131 (44, 22, 0) t0.toNat) (Γ_131 (39, 0, 0) 1) T0 (Γ_131 (39, 0, 0) 5) a (d + 1) := hp.eq (show Γ_131 (43, 8800, 0) = _ from by rw [eΓ_131, tg_rf (by decide)]) rfl (congrFun (show Γ_131 (44, 22, 0) = _ from by rw [eΓ_131, tg_rf (by decide)]) _) (by omega) rfl (by omega)
    have hz : fz (Γ (43, 8800, 0)) (Γ_131 (43, 8800, 0)) (Γ (44, 22, 0)) (Γ_131 (44, 22, 0)) t0 := by rw [(show Γ_131 (43, 8800, 0) = _ from by rw [eΓ_131, tg_rf (by decide)]), (show Γ_131 (44, 22, 0) = _ from by rw [eΓ_131, tg_rf (by decide)])]; exact hz
    have hfw : fw (Γ (43, 8800, 0)) (Γ_131 (43, 8800, 0)) (Γ (44, 22, 0)) (Γ_131 (44, 22, 0)) t0 := by rw [(show Γ_131 (43, 8800, 0) = _ from by rw [eΓ_131, tg_rf (by decide)]), (show Γ_131 (44, 22, 0) = _ from by rw [eΓ_131, tg_rf (by decide)])]; exact hfw
    refine lv_iload_n hx hb dX12_clauseOf_78 rfl (lv_at hl 2 rfl) ?_
    refine lv_if_eq (tgt := 92) hx hb dX12_clauseOf_79 (by decide) (fun c => absurd c (by decide)) (fun _ => ?_)
    refine lv_aload_n hx hb dX12_clauseOf_82 rfl (lv_at hl 1 rfl) ?_
    refine lv_ldc2 (v := 26982) hx hb hown (hta _ wk_614) dX12_clauseOf_83 ?_
    refine tq_ciR hS (hAf _ hS.1) (tq_rV (As := [.long 26982]) (rest := []) ⟨hx, hb, hml, hown, hta⟩ (tp_P.pre hK hN hL hU hI hP) (tp_recv hK hP ho.1 hf_134 rfl) lk_X12_278 (r_X12_takesWord l D cy H.size L K Γ_131 f_132 o 26982 τ T0 ho ((hgr _ (by decide)).trans ht) (by first | omega | (simp only [Int32.toInt_toInt64]; omega) | decide | assumption) (by first | omega | (simp only [Int32.toInt_toInt64]; omega) | decide | assumption)) rfl rfl ⟨Nat.le_of_ble_eq_true rfl, Nat.le_of_ble_eq_true rfl⟩ rfl hl.1 rfl (Nat.le_of_ble_eq_true rfl) dX12_clauseOf_86 ⟨Nat.le_of_ble_eq_true rfl, Nat.le_of_ble_eq_true rfl⟩) (fun r_149 f_150 Γ_152 H locs hw_148 hP hI hc_151 hcg_153 hS => ?_)
    have hD : va_D A (va_pl L f_150) := tp_D hL hAL
    have hfr := tp_fr2 hfr hc_151 (by decide)
    have hgr : ∀ κ : tk_K, κ.1 ∉ ([39, 43, 44, 52, 45, 46] : List Nat) → Γ_152 κ = Γ κ := tg_fr2 hgr hcg_153 (by decide)
    have hf_154 := (tp_un hc_151 (show tp_r L K 46 22 0 (r_22 6) from hr_25 6 (by decide)) (by decide)).trans hf_133
    have hf_155 := (tp_un hc_151 (show tp_r L K 44 22 0 (r_82 4) from hr_85 4 (by decide)) (by decide)).trans hf_135
    have hg_156 : ∀ j : Nat, j < 22 → (g_37 j).toInt = Γ_152 (46, 22, 0) j := fun j hj => by rw [hcg_153 _ (by decide)]; exact hg_137 j hj
    have hg_157 : ∀ j : Nat, j < 22 → (g_97 j).toInt = Γ_152 (44, 22, 0) j := fun j hj => by rw [hcg_153 _ (by decide)]; exact hg_147 j hj
    have wy_152_MLEN : Γ_152 (44, 22, 0) t0.toNat = Γ_131 (44, 22, 0) t0.toNat := congrFun (hcg_153 (44, 22, 0) (by decide)) _
    have wy_152_MCLS : Γ_152 (46, 22, 0) t0.toNat = Γ_131 (46, 22, 0) t0.toNat := congrFun (hcg_153 (46, 22, 0) (by decide)) _
    obtain ⟨hE_158, hw_148⟩ := hw_148
    have hE_158 : tl_J r_149 (Γ_131 (39, 0, 0) 1 + 1 ≤ Γ_152 (39, 0, 0) 1) := hE_158
    have hw_148 : Γ_152 (39, 0, 0) 0 = Γ_131 (39, 0, 0) 0 ∧ Γ_152 (39, 0, 0) 3 = Γ_131 (39, 0, 0) 3 ∧ Γ_152 (39, 0, 0) 4 = Γ_131 (39, 0, 0) 4 ∧ Γ_152 (39, 0, 0) 5 = Γ_131 (39, 0, 0) 5 ∧ Γ_152 (39, 0, 0) 6 = Γ_131 (39, 0, 0) 6 ∧ Γ_152 (39, 0, 0) 7 = Γ_131 (39, 0, 0) 7 ∧ Γ_152 (39, 0, 0) 8 = Γ_131 (39, 0, 0) 8 ∧ Γ_131 (39, 0, 0) 1 ≤ Γ_152 (39, 0, 0) 1 ∧ Γ_152 (39, 0, 0) 1 ≤ T0 := hw_148
    have hO_MCL : Γ_152 (45, 1056, 0) = tgu (tgu (tgu (Γ (45, 1056, 0)) (B0 + 0) (A0)) (B0 + 1) (A1)) (B0 + 2) ((-1 : Int)) := (hcg_153 (45, 1056, 0) (by decide)).trans hO_MCL
    have hO_MCLS : Γ_152 (46, 22, 0) = Γ (46, 22, 0) := (hcg_153 (46, 22, 0) (by decide)).trans hO_MCLS
    have hO_SIGN : Γ_152 (43, 8800, 0) = Γ_75 (43, 8800, 0) := (hcg_153 (43, 8800, 0) (by decide)).trans hO_SIGN
    obtain ⟨hpa, hpb, hpc, hpd, _⟩ := id hp
    have hle := congrFun (hcg_153 (44, 22, 0) (by decide)) t0.toNat
    have hp : ps (Γ_152 (43, 8800, 0)) t0 (Γ_152 (44, 22, 0) t0.toNat) (Γ_152 (39, 0, 0) 1) T0 (Γ_152 (39, 0, 0) 5) a (d + 1) := hp.eq (hcg_153 (43, 8800, 0) (by decide)) rfl (congrFun (hcg_153 (44, 22, 0) (by decide)) _) (by omega) rfl (by omega)
    have hz : fz (Γ (43, 8800, 0)) (Γ_152 (43, 8800, 0)) (Γ (44, 22, 0)) (Γ_152 (44, 22, 0)) t0 := by rw [(hcg_153 (43, 8800, 0) (by decide)), (hcg_153 (44, 22, 0) (by decide))]; exact hz
    have hfw : fw (Γ (43, 8800, 0)) (Γ_152 (43, 8800, 0)) (Γ (44, 22, 0)) (Γ_152 (44, 22, 0)) t0 := by rw [(hcg_153 (43, 8800, 0) (by decide)), (hcg_153 (44, 22, 0) (by decide))]; exact hfw
    refine lv_if_eq (tgt := 118) hx hb dX12_clauseOf_89 (by decide) (fun c_159 => ?_) (fun c_159 => ?_)
    · have c_159 := c_159
      obtain ⟨A3, hA3⟩ : ∃ y : Int, y = Γ_152 (44, 22, 0) t0.toNat := ⟨_, rfl⟩
      have hl13 : A1 ≤ A3 := by omega
      refine lv_aload_n hx hb dX12_clauseOf_118 rfl (lv_at hl 1 rfl) ?_
      obtain ⟨r_161, v_162, q_163, hf_160, hr_164, hv_165⟩ := (show tp_o_M L K 0 0 (Γ_152 (39, 0, 0)) (f_150 o) from hI.at ho)
      have hx_166 : (v_162 0).toInt = Γ_152 (39, 0, 0) 0 := hv_165 0 (by decide)
      have hx_167 : (v_162 1).toInt = Γ_152 (39, 0, 0) 1 := hv_165 1 (by decide)
      have hx_168 : (v_162 3).toInt = Γ_152 (39, 0, 0) 3 := hv_165 3 (by decide)
      have hx_169 : (v_162 4).toInt = Γ_152 (39, 0, 0) 4 := hv_165 4 (by decide)
      have hx_170 : (v_162 5).toInt = Γ_152 (39, 0, 0) 5 := hv_165 5 (by decide)
      have hx_171 : (v_162 6).toInt = Γ_152 (39, 0, 0) 6 := hv_165 6 (by decide)
      have hx_172 : (v_162 7).toInt = Γ_152 (39, 0, 0) 7 := hv_165 7 (by decide)
      have hx_173 : (v_162 8).toInt = Γ_152 (39, 0, 0) 8 := hv_165 8 (by decide)
      refine tp_get (cy := cy) (ci := 12) (v := .ref (r_161 5)) (C := RX12) (T := TX12) (N := 49) hx hb hta inlX12 hown hK hP ho.1 hf_160 rfl 6 (by decide) (hta _ wk_155) (fun _ h9 => h9) rfl dX12_clauseOf_119 ?_
      refine lv_iload_n hx hb dX12_clauseOf_122 rfl (lv_at hl 0 rfl) ?_
      refine lv_iconst (v := 3) hx hb dX12_clauseOf_123 (by decide) ?_
      refine lv_iadd hx hb dX12_clauseOf_124 ?_
      refine lv_topi (fun z_174 ez_174 => ?_)
      try have iz_174 : z_174.toInt = z_42.toInt + (3 : Int) := by rw [ez_174]; exact tl_addN z_42 3 rfl rfl (by omega) (by omega)
      refine lv_aload_n hx hb dX12_clauseOf_125 rfl (lv_at hl 1 rfl) ?_
      refine tp_get (cy := cy) (ci := 12) (v := .ref (r_161 4)) (C := RX12) (T := TX12) (N := 49) hx hb hta inlX12 hown hK hP ho.1 hf_160 rfl 5 (by decide) (hta _ wk_154) (fun _ h9 => h9) rfl dX12_clauseOf_126 ?_
      refine lv_aload_n hx hb dX12_clauseOf_129 rfl (lv_at hl 1 rfl) ?_
      refine tp_get (cy := cy) (ci := 12) (v := .int (v_162 4)) (C := RX12) (T := TX12) (N := 49) hx hb hta inlX12 hown hK hP ho.1 hf_160 rfl 20 (by decide) (hta _ wk_537) (fun _ h9 => h9) rfl dX12_clauseOf_130 ?_
      obtain ⟨g_176, hf_175, hg_177⟩ := (show tp_gi cy (22) (Γ_152 (44, 22, 0)) (f_150 (r_161 4)) from hI.at (show tp_r L K 44 22 0 (r_161 4) from hr_164 4 (by decide)))
      have hn_178 : vp_in (v_162 4) (22) := tl_in (by omega) (by omega)
      refine tp_iald (cy := cy) hx hb hK hP (show tp_r L K 44 22 0 (r_161 4) from hr_164 4 (by decide)).1 hf_175 hn_178 dX12_clauseOf_133 ?_
      refine lv_topi (fun z_179 ez_179 => ?_)
      have iz_179 : z_179.toInt = Γ_152 (44, 22, 0) (v_162 4).toInt.toNat := by rw [ez_179]; exact hg_177 _ (tp_pin hn_178)
      have jz_179 : z_179.toInt = Γ_152 (44, 22, 0) t0.toNat := by rw [show t0 = (v_162 4).toInt from by omega]; exact iz_179
      obtain ⟨g_181, hf_180, hg_182⟩ := (show tp_gi cy (1056) (Γ_152 (45, 1056, 0)) (f_150 (r_161 5)) from hI.at (show tp_r L K 45 1056 0 (r_161 5) from hr_164 5 (by decide)))
      have hn_183 : vp_in z_174 (1056) := tl_in (by omega) (by omega)
      have hj_184 : z_174.toNatClampNeg = (B0 + 3) := by show z_174.toInt.toNat = _; omega
      have hv_185 : z_179.toInt = A3 := by omega
      obtain ⟨Γ_186, eΓ_186⟩ : ∃ y : tk_G, y = tg Γ_152 (45, 1056, 0) (B0 + 3) A3 := ⟨_, rfl⟩
      have hI9 : tp_I cy L K Γ_186 (va_up f_150 (r_161 5) (.inl (cy 0, 1056, .inl (upd g_181 z_174.toNatClampNeg z_179)))) := by have q9 : tg Γ_152 (45, 1056, 0) (B0 + 3) A3 = tg Γ_152 (45, 1056, 0) z_174.toNatClampNeg z_179.toInt := (by rw [hj_184, hv_185]); rw [eΓ_186, q9]; exact hI.setg hU rfl (show tp_r L K 45 1056 0 (r_161 5) from hr_164 5 (by decide)) (show tp_gi cy (1056) (tgu (Γ_152 (45, 1056, 0)) _ _) _ from ⟨_, rfl, tp_gi_upd hg_182⟩)
      have hfr9 : ∀ b, (K b).1 ∉ ([39, 43, 44, 52, 45, 46] : List Nat) → va_up f_150 (r_161 5) (.inl (cy 0, 1056, .inl (upd g_181 z_174.toNatClampNeg z_179))) b = f b := tp_fr hfr (show tp_r L K 45 1056 0 (r_161 5) from hr_164 5 (by decide)) (by decide)
      refine tp_iast (cy := cy) hx hb hK hP hD hS (show tp_r L K 45 1056 0 (r_161 5) from hr_164 5 (by decide)).1 hf_180 hn_183 dX12_clauseOf_134 (fun H locs hP hD hS => ?_)
      have hP : va_P D vwCl (va_pl L (va_up f_150 (r_161 5) (.inl (cy 0, 1056, .inl (upd g_181 z_174.toNatClampNeg z_179))))) H := hP
      generalize hfe : va_up f_150 (r_161 5) (.inl (cy 0, 1056, .inl (upd g_181 z_174.toNatClampNeg z_179))) = f_187 at hP hI9 hfr9
      have hD : va_D A (va_pl L f_187) := tp_D hL hAL
      have hf_188 := (show f_187 (r_22 6) = _ from by rw [← hfe, va_up_ne _ _ (tp_ne (show tp_r L K 46 22 0 (r_22 6) from hr_25 6 (by decide)) (show tp_r L K 45 1056 0 (r_161 5) from hr_164 5 (by decide)) (by decide))]).trans hf_154
      have hf_189 := (show f_187 (r_82 4) = _ from by rw [← hfe, va_up_ne _ _ (tp_ne (show tp_r L K 44 22 0 (r_82 4) from hr_85 4 (by decide)) (show tp_r L K 45 1056 0 (r_161 5) from hr_164 5 (by decide)) (by decide))]).trans hf_155
      have hf_190 := (show f_187 o = _ from by rw [← hfe, va_up_ne _ _ (tp_ne ho (show tp_r L K 45 1056 0 (r_161 5) from hr_164 5 (by decide)) (by decide))]).trans hf_160
      have hf_191 := (show f_187 (r_161 4) = _ from by rw [← hfe, va_up_ne _ _ (tp_ne (show tp_r L K 44 22 0 (r_161 4) from hr_164 4 (by decide)) (show tp_r L K 45 1056 0 (r_161 5) from hr_164 5 (by decide)) (by decide))]).trans hf_175
      have hf_192 : f_187 (r_161 5) = .inl (cy 0, 1056, .inl (upd g_181 z_174.toNatClampNeg z_179)) := by rw [← hfe]; exact va_up_self _ _ _
      clear hfe
      have hI := hI9
      have hfr := hfr9
      clear hI9 hfr9
      clear hj_184 hv_185
      have wxΓ_186_MLEN : Γ_186 (44, 22, 0) t0.toNat = Γ_152 (44, 22, 0) t0.toNat := by rw [eΓ_186, tg_r (by decide)]
      have wxΓ_186_MCLS : Γ_186 (46, 22, 0) t0.toNat = Γ_152 (46, 22, 0) t0.toNat := by rw [eΓ_186, tg_r (by decide)]
      have wsΓ_186 : Γ_186 (45, 1056, 0) (B0 + 3) = A3 := by rw [eΓ_186]; exact tg_s
      have hgr : ∀ κ : tk_K, κ.1 ∉ ([39, 43, 44, 52, 45, 46] : List Nat) → Γ_186 κ = Γ κ := tg_fr hgr eΓ_186 (by decide)
      have hg_193 : ∀ j : Nat, j < 22 → (g_37 j).toInt = Γ_186 (46, 22, 0) j := fun j hj => by rw [eΓ_186, tg_r (by decide)]; exact hg_156 j hj
      have hg_194 : ∀ j : Nat, j < 22 → (g_97 j).toInt = Γ_186 (44, 22, 0) j := fun j hj => by rw [eΓ_186, tg_r (by decide)]; exact hg_157 j hj
      have hv_195 : ∀ i : Nat, i < 16 → (v_162 i).toInt = Γ_186 (39, 0, 0) i := fun i hi => by rw [eΓ_186, tg_r (by decide)]; exact hv_165 i hi
      have hx_196 : (v_162 0).toInt = Γ_186 (39, 0, 0) 0 := hv_195 0 (by decide)
      have hx_197 : (v_162 1).toInt = Γ_186 (39, 0, 0) 1 := hv_195 1 (by decide)
      have hx_198 : (v_162 3).toInt = Γ_186 (39, 0, 0) 3 := hv_195 3 (by decide)
      have hx_199 : (v_162 4).toInt = Γ_186 (39, 0, 0) 4 := hv_195 4 (by decide)
      have hx_200 : (v_162 5).toInt = Γ_186 (39, 0, 0) 5 := hv_195 5 (by decide)
      have hx_201 : (v_162 6).toInt = Γ_186 (39, 0, 0) 6 := hv_195 6 (by decide)
      have hx_202 : (v_162 7).toInt = Γ_186 (39, 0, 0) 7 := hv_195 7 (by decide)
      have hx_203 : (v_162 8).toInt = Γ_186 (39, 0, 0) 8 := hv_195 8 (by decide)
      have hg_204 : ∀ j : Nat, j < 22 → (g_176 j).toInt = Γ_186 (44, 22, 0) j := fun j hj => by rw [eΓ_186, tg_r (by decide)]; exact hg_177 j hj
      have hO_MCL : Γ_186 (45, 1056, 0) = tgu (tgu (tgu (tgu (Γ (45, 1056, 0)) (B0 + 0) (A0)) (B0 + 1) (A1)) (B0 + 2) ((-1 : Int))) (B0 + 3) (A3) := by rw [eΓ_186, tg_f, hO_MCL]
      have hO_MCLS : Γ_186 (46, 22, 0) = Γ (46, 22, 0) := by rw [eΓ_186, tg_rf (by decide)]; exact hO_MCLS
      have hO_SIGN : Γ_186 (43, 8800, 0) = Γ_75 (43, 8800, 0) := by rw [eΓ_186, tg_rf (by decide)]; exact hO_SIGN
      obtain ⟨hpa, hpb, hpc, hpd, _⟩ := id hp
      have hle := congrFun (show Γ_186 (44, 22, 0) = _ from by rw [eΓ_186, tg_rf (by decide)]) t0.toNat
      have hp : ps (Γ_186 (43, 8800, 0)) t0 (Γ_186 (44, 22, 0) t0.toNat) (Γ_186 (39, 0, 0) 1) T0 (Γ_186 (39, 0, 0) 5) a (d + 1) := hp.eq (show Γ_186 (43, 8800, 0) = _ from by rw [eΓ_186, tg_rf (by decide)]) rfl (congrFun (show Γ_186 (44, 22, 0) = _ from by rw [eΓ_186, tg_rf (by decide)]) _) (by omega) rfl (by omega)
      have hz : fz (Γ (43, 8800, 0)) (Γ_186 (43, 8800, 0)) (Γ (44, 22, 0)) (Γ_186 (44, 22, 0)) t0 := by rw [(show Γ_186 (43, 8800, 0) = _ from by rw [eΓ_186, tg_rf (by decide)]), (show Γ_186 (44, 22, 0) = _ from by rw [eΓ_186, tg_rf (by decide)])]; exact hz
      have hfw : fw (Γ (43, 8800, 0)) (Γ_186 (43, 8800, 0)) (Γ (44, 22, 0)) (Γ_186 (44, 22, 0)) t0 := by rw [(show Γ_186 (43, 8800, 0) = _ from by rw [eΓ_186, tg_rf (by decide)]), (show Γ_186 (44, 22, 0) = _ from by rw [eΓ_186, tg_rf (by decide)])]; exact hfw
      refine lv_aload_n hx hb dX12_clauseOf_135 rfl (lv_at hl 1 rfl) ?_
      refine tp_get (cy := cy) (ci := 12) (v := .ref (r_161 6)) (C := RX12) (T := TX12) (N := 49) hx hb hta inlX12 hown hK hP ho.1 hf_190 rfl 7 (by decide) (hta _ wk_156) (fun _ h9 => h9) rfl dX12_clauseOf_136 ?_
      refine lv_aload_n hx hb dX12_clauseOf_139 rfl (lv_at hl 1 rfl) ?_
      refine tp_get (cy := cy) (ci := 12) (v := .int (v_162 4)) (C := RX12) (T := TX12) (N := 49) hx hb hta inlX12 hown hK hP ho.1 hf_190 rfl 20 (by decide) (hta _ wk_537) (fun _ h9 => h9) rfl dX12_clauseOf_140 ?_
      refine lv_dup2_11 hx hb dX12_clauseOf_143 rfl rfl ?_
      obtain ⟨g_206, hf_205, hg_207⟩ := (show tp_gi cy (22) (Γ_186 (46, 22, 0)) (f_187 (r_161 6)) from hI.at (show tp_r L K 46 22 0 (r_161 6) from hr_164 6 (by decide)))
      have hn_208 : vp_in (v_162 4) (22) := tl_in (by omega) (by omega)
      refine tp_iald (cy := cy) hx hb hK hP (show tp_r L K 46 22 0 (r_161 6) from hr_164 6 (by decide)).1 hf_205 hn_208 dX12_clauseOf_144 ?_
      refine lv_topi (fun z_209 ez_209 => ?_)
      have iz_209 : z_209.toInt = Γ_186 (46, 22, 0) (v_162 4).toInt.toNat := by rw [ez_209]; exact hg_207 _ (tp_pin hn_208)
      have jz_209 : z_209.toInt = Γ_186 (46, 22, 0) t0.toNat := by rw [show t0 = (v_162 4).toInt from by omega]; exact iz_209
      refine lv_iconst (v := 1) hx hb dX12_clauseOf_145 (by decide) ?_
      refine lv_iadd hx hb dX12_clauseOf_146 ?_
      refine lv_topi (fun z_210 ez_210 => ?_)
      try have iz_210 : z_210.toInt = z_209.toInt + (1 : Int) := by rw [ez_210]; exact tl_addN z_209 1 rfl rfl (by omega) (by omega)
      have hn_211 : vp_in (v_162 4) (22) := tl_in (by omega) (by omega)
      have hj_212 : (v_162 4).toNatClampNeg = t0.toNat := by show (v_162 4).toInt.toNat = _; omega
      have hv_213 : z_210.toInt = Γ (46, 22, 0) t0.toNat + 1 := by omega
      obtain ⟨Γ_214, eΓ_214⟩ : ∃ y : tk_G, y = tg Γ_186 (46, 22, 0) t0.toNat (Γ (46, 22, 0) t0.toNat + 1) := ⟨_, rfl⟩
      have hI9 : tp_I cy L K Γ_214 (va_up f_187 (r_161 6) (.inl (cy 0, 22, .inl (upd g_206 (v_162 4).toNatClampNeg z_210)))) := by have q9 : tg Γ_186 (46, 22, 0) t0.toNat (Γ (46, 22, 0) t0.toNat + 1) = tg Γ_186 (46, 22, 0) (v_162 4).toNatClampNeg z_210.toInt := (by rw [hj_212, hv_213]); rw [eΓ_214, q9]; exact hI.setg hU rfl (show tp_r L K 46 22 0 (r_161 6) from hr_164 6 (by decide)) (show tp_gi cy (22) (tgu (Γ_186 (46, 22, 0)) _ _) _ from ⟨_, rfl, tp_gi_upd hg_207⟩)
      have hfr9 : ∀ b, (K b).1 ∉ ([39, 43, 44, 52, 45, 46] : List Nat) → va_up f_187 (r_161 6) (.inl (cy 0, 22, .inl (upd g_206 (v_162 4).toNatClampNeg z_210))) b = f b := tp_fr hfr (show tp_r L K 46 22 0 (r_161 6) from hr_164 6 (by decide)) (by decide)
      refine tp_iast (cy := cy) hx hb hK hP hD hS (show tp_r L K 46 22 0 (r_161 6) from hr_164 6 (by decide)).1 hf_205 hn_211 dX12_clauseOf_147 (fun H locs hP hD hS => ?_)
      have hP : va_P D vwCl (va_pl L (va_up f_187 (r_161 6) (.inl (cy 0, 22, .inl (upd g_206 (v_162 4).toNatClampNeg z_210))))) H := hP
      generalize hfe : va_up f_187 (r_161 6) (.inl (cy 0, 22, .inl (upd g_206 (v_162 4).toNatClampNeg z_210))) = f_215 at hP hI9 hfr9
      have hD : va_D A (va_pl L f_215) := tp_D hL hAL
      have hf_216 := (show f_215 (r_82 4) = _ from by rw [← hfe, va_up_ne _ _ (tp_ne (show tp_r L K 44 22 0 (r_82 4) from hr_85 4 (by decide)) (show tp_r L K 46 22 0 (r_161 6) from hr_164 6 (by decide)) (by decide))]).trans hf_189
      have hf_217 := (show f_215 o = _ from by rw [← hfe, va_up_ne _ _ (tp_ne ho (show tp_r L K 46 22 0 (r_161 6) from hr_164 6 (by decide)) (by decide))]).trans hf_190
      have hf_218 := (show f_215 (r_161 4) = _ from by rw [← hfe, va_up_ne _ _ (tp_ne (show tp_r L K 44 22 0 (r_161 4) from hr_164 4 (by decide)) (show tp_r L K 46 22 0 (r_161 6) from hr_164 6 (by decide)) (by decide))]).trans hf_191
      have hf_219 : f_215 (r_161 6) = .inl (cy 0, 22, .inl (upd g_206 (v_162 4).toNatClampNeg z_210)) := by rw [← hfe]; exact va_up_self _ _ _
      clear hfe
      have hI := hI9
      have hfr := hfr9
      clear hI9 hfr9
      clear hj_212 hv_213
      have wxΓ_214_MLEN : Γ_214 (44, 22, 0) t0.toNat = Γ_186 (44, 22, 0) t0.toNat := by rw [eΓ_214, tg_r (by decide)]
      have wsΓ_214 : Γ_214 (46, 22, 0) t0.toNat = Γ (46, 22, 0) t0.toNat + 1 := by rw [eΓ_214]; exact tg_s
      have hgr : ∀ κ : tk_K, κ.1 ∉ ([39, 43, 44, 52, 45, 46] : List Nat) → Γ_214 κ = Γ κ := tg_fr hgr eΓ_214 (by decide)
      have hg_220 : ∀ j : Nat, j < 22 → (g_97 j).toInt = Γ_214 (44, 22, 0) j := fun j hj => by rw [eΓ_214, tg_r (by decide)]; exact hg_194 j hj
      have hv_221 : ∀ i : Nat, i < 16 → (v_162 i).toInt = Γ_214 (39, 0, 0) i := fun i hi => by rw [eΓ_214, tg_r (by decide)]; exact hv_195 i hi
      have hx_222 : (v_162 0).toInt = Γ_214 (39, 0, 0) 0 := hv_221 0 (by decide)
      have hx_223 : (v_162 1).toInt = Γ_214 (39, 0, 0) 1 := hv_221 1 (by decide)
      have hx_224 : (v_162 3).toInt = Γ_214 (39, 0, 0) 3 := hv_221 3 (by decide)
      have hx_225 : (v_162 4).toInt = Γ_214 (39, 0, 0) 4 := hv_221 4 (by decide)
      have hx_226 : (v_162 5).toInt = Γ_214 (39, 0, 0) 5 := hv_221 5 (by decide)
      have hx_227 : (v_162 6).toInt = Γ_214 (39, 0, 0) 6 := hv_221 6 (by decide)
      have hx_228 : (v_162 7).toInt = Γ_214 (39, 0, 0) 7 := hv_221 7 (by decide)
      have hx_229 : (v_162 8).toInt = Γ_214 (39, 0, 0) 8 := hv_221 8 (by decide)
      have hg_230 : ∀ j : Nat, j < 22 → (g_176 j).toInt = Γ_214 (44, 22, 0) j := fun j hj => by rw [eΓ_214, tg_r (by decide)]; exact hg_204 j hj
      have hO_MCL : Γ_214 (45, 1056, 0) = tgu (tgu (tgu (tgu (Γ (45, 1056, 0)) (B0 + 0) (A0)) (B0 + 1) (A1)) (B0 + 2) ((-1 : Int))) (B0 + 3) (A3) := by rw [eΓ_214, tg_rf (by decide)]; exact hO_MCL
      have hO_MCLS : Γ_214 (46, 22, 0) = tgu (Γ (46, 22, 0)) t0.toNat (Γ (46, 22, 0) t0.toNat + 1) := by rw [eΓ_214, tg_f, hO_MCLS]
      have hO_SIGN : Γ_214 (43, 8800, 0) = Γ_75 (43, 8800, 0) := by rw [eΓ_214, tg_rf (by decide)]; exact hO_SIGN
      obtain ⟨hpa, hpb, hpc, hpd, _⟩ := id hp
      have hle := congrFun (show Γ_214 (44, 22, 0) = _ from by rw [eΓ_214, tg_rf (by decide)]) t0.toNat
      have hp : ps (Γ_214 (43, 8800, 0)) t0 (Γ_214 (44, 22, 0) t0.toNat) (Γ_214 (39, 0, 0) 1) T0 (Γ_214 (39, 0, 0) 5) a (d + 1) := hp.eq (show Γ_214 (43, 8800, 0) = _ from by rw [eΓ_214, tg_rf (by decide)]) rfl (congrFun (show Γ_214 (44, 22, 0) = _ from by rw [eΓ_214, tg_rf (by decide)]) _) (by omega) rfl (by omega)
      have hz : fz (Γ (43, 8800, 0)) (Γ_214 (43, 8800, 0)) (Γ (44, 22, 0)) (Γ_214 (44, 22, 0)) t0 := by rw [(show Γ_214 (43, 8800, 0) = _ from by rw [eΓ_214, tg_rf (by decide)]), (show Γ_214 (44, 22, 0) = _ from by rw [eΓ_214, tg_rf (by decide)])]; exact hz
      have hfw : fw (Γ (43, 8800, 0)) (Γ_214 (43, 8800, 0)) (Γ (44, 22, 0)) (Γ_214 (44, 22, 0)) t0 := by rw [(show Γ_214 (43, 8800, 0) = _ from by rw [eΓ_214, tg_rf (by decide)]), (show Γ_214 (44, 22, 0) = _ from by rw [eΓ_214, tg_rf (by decide)])]; exact hfw
      obtain ⟨hpa, hpb, hpc, hpd, _⟩ := id hp
      have hq2 : tc (Γ_214 (43, 8800, 0)) (Γ (45, 1056, 0)) (Γ (46, 22, 0)) t0 (Γ (44, 22, 0) t0.toNat) := htc.fz (by omega) hz (Int.le_refl _)
      have hq3 : tc (Γ_214 (43, 8800, 0)) (Γ_214 (45, 1056, 0)) (Γ (46, 22, 0)) t0 (Γ_214 (44, 22, 0) t0.toNat) := (hq2.mono hz.2.1).mc (by omega) (fun i9 q9 => by rw [hO_MCL, tgu_n (by omega), tgu_n (by omega), tgu_n (by omega), tgu_n (by omega)])
      have hm0 : Γ_214 (45, 1056, 0) (B0 + 0) = A0 := by rw [hO_MCL, tgu_n (by omega), tgu_n (by omega), tgu_n (by omega), tgu_s]
      have hm1 : Γ_214 (45, 1056, 0) (B0 + 1) = A1 := by rw [hO_MCL, tgu_n (by omega), tgu_n (by omega), tgu_s]
      have hm2 : Γ_214 (45, 1056, 0) (B0 + 2) = (-1) := by rw [hO_MCL, tgu_n (by omega), tgu_s]
      have hm3 : Γ_214 (45, 1056, 0) (B0 + 3) = A3 := by rw [hO_MCL, tgu_s]
      have hn9 : tcc (Γ_214 (43, 8800, 0)) (Γ_214 (45, 1056, 0)) t0 (Γ (46, 22, 0) t0.toNat) (Γ_214 (44, 22, 0) t0.toNat) := by unfold tcc; rw [clx0 hBi, clx1 hBi, clx2 hBi, clx3 hBi]; exact ⟨(Or.inl (by rw [hm2]; omega)), (fun _ => by rw [hm0, hm1]; exact ⟨by omega, by omega, by omega, by rw [hO_SIGN]; exact hS1⟩)⟩
      have hq4 : tc (Γ_214 (43, 8800, 0)) (Γ_214 (45, 1056, 0)) (Γ_214 (46, 22, 0)) t0 (Γ_214 (44, 22, 0) t0.toNat) := by rw [hO_MCLS]; exact hq3.add hn9
      refine lv_iconst (v := 1) hx hb dX12_clauseOf_148 (by decide) ?_
      have hpo9 : tl_J (1 : Int32) (Γ_214 (46, 22, 0) = tgu (Γ (46, 22, 0)) t0.toNat (Γ (46, 22, 0) t0.toNat + 1) ∧ Γ_214 (44, 22, 0) t0.toNat ≤ Γ_214 (39, 0, 0) 1 ∧ (0 ≤ Γ_214 (39, 0, 0) 5 ∧ Γ_214 (39, 0, 0) 5 ≤ 60) ∧ tc (Γ_214 (43, 8800, 0)) (Γ_214 (45, 1056, 0)) (Γ_214 (46, 22, 0)) t0 (Γ_214 (44, 22, 0) t0.toNat)) ∧ Γ_214 (39, 0, 0) 0 = Γ (39, 0, 0) 0 ∧ Γ_214 (39, 0, 0) 4 = Γ (39, 0, 0) 4 ∧ Γ_214 (39, 0, 0) 7 = Γ (39, 0, 0) 7 ∧ Γ (39, 0, 0) 1 ≤ Γ_214 (39, 0, 0) 1 ∧ Γ_214 (39, 0, 0) 1 ≤ T0 ∧ fw (Γ (43, 8800, 0)) (Γ_214 (43, 8800, 0)) (Γ (44, 22, 0)) (Γ_214 (44, 22, 0)) t0 ∧ (∀ i : Nat, (i : Int) < 48 * t0 ∨ 48 * t0 + 48 ≤ i → Γ_214 (45, 1056, 0) i = Γ (45, 1056, 0) i) ∧ (∀ j : Nat, ¬ j = t0.toNat → Γ_214 (46, 22, 0) j = Γ (46, 22, 0) j) ∧ tc (Γ_214 (43, 8800, 0)) (Γ_214 (45, 1056, 0)) (Γ_214 (46, 22, 0)) t0 (400) ∧ (Γ (46, 22, 0) t0.toNat ≤ Γ_214 (46, 22, 0) t0.toNat ∧ Γ_214 (46, 22, 0) t0.toNat ≤ Γ (46, 22, 0) t0.toNat + 1) := ⟨(Or.inl ⟨rfl, ⟨hO_MCLS, (by omega), (by omega), hq4⟩⟩), ⟨(by omega), (by omega), (by omega), (by omega), (by omega), hfw, (fun i9 q9 => by rw [hO_MCL, tgu_n (by omega), tgu_n (by omega), tgu_n (by omega), tgu_n (by omega)]), (fun j9 q9 => by rw [hO_MCLS, tgu_n q9]), (hq4.mono (by omega)), (by rw [hO_MCLS, tgu_s]; omega)⟩⟩
      exact W.zret (ty := .boolean) (v := 1) hx hb hr rfl (fun t ht hW => ⟨⟨_, (f_215, Γ_214), rfl, hpo9, by rw [ht]; exact hP, hI, hfr, hgr⟩, hS.F ht⟩) hS.2.2 dX12_clauseOf_149
    · have c_159 := hE_158.t c_159
      refine lv_aload_n hx hb dX12_clauseOf_92 rfl (lv_at hl 1 rfl) ?_
      obtain ⟨r_232, v_233, q_234, hf_231, hr_235, hv_236⟩ := (show tp_o_M L K 0 0 (Γ_152 (39, 0, 0)) (f_150 o) from hI.at ho)
      have hx_237 : (v_233 0).toInt = Γ_152 (39, 0, 0) 0 := hv_236 0 (by decide)
      have hx_238 : (v_233 1).toInt = Γ_152 (39, 0, 0) 1 := hv_236 1 (by decide)
      have hx_239 : (v_233 3).toInt = Γ_152 (39, 0, 0) 3 := hv_236 3 (by decide)
      have hx_240 : (v_233 4).toInt = Γ_152 (39, 0, 0) 4 := hv_236 4 (by decide)
      have hx_241 : (v_233 5).toInt = Γ_152 (39, 0, 0) 5 := hv_236 5 (by decide)
      have hx_242 : (v_233 6).toInt = Γ_152 (39, 0, 0) 6 := hv_236 6 (by decide)
      have hx_243 : (v_233 7).toInt = Γ_152 (39, 0, 0) 7 := hv_236 7 (by decide)
      have hx_244 : (v_233 8).toInt = Γ_152 (39, 0, 0) 8 := hv_236 8 (by decide)
      refine tp_get (cy := cy) (ci := 12) (v := .ref (r_232 5)) (C := RX12) (T := TX12) (N := 49) hx hb hta inlX12 hown hK hP ho.1 hf_231 rfl 6 (by decide) (hta _ wk_155) (fun _ h9 => h9) rfl dX12_clauseOf_93 ?_
      refine lv_iload_n hx hb dX12_clauseOf_96 rfl (lv_at hl 0 rfl) ?_
      refine lv_iconst (v := 2) hx hb dX12_clauseOf_97 (by decide) ?_
      refine lv_iadd hx hb dX12_clauseOf_98 ?_
      refine lv_topi (fun z_245 ez_245 => ?_)
      try have iz_245 : z_245.toInt = z_42.toInt + (2 : Int) := by rw [ez_245]; exact tl_addN z_42 2 rfl rfl (by omega) (by omega)
      refine lv_aload_n hx hb dX12_clauseOf_99 rfl (lv_at hl 1 rfl) ?_
      refine tp_get (cy := cy) (ci := 12) (v := .ref (r_232 4)) (C := RX12) (T := TX12) (N := 49) hx hb hta inlX12 hown hK hP ho.1 hf_231 rfl 5 (by decide) (hta _ wk_154) (fun _ h9 => h9) rfl dX12_clauseOf_100 ?_
      refine lv_aload_n hx hb dX12_clauseOf_103 rfl (lv_at hl 1 rfl) ?_
      refine tp_get (cy := cy) (ci := 12) (v := .int (v_233 4)) (C := RX12) (T := TX12) (N := 49) hx hb hta inlX12 hown hK hP ho.1 hf_231 rfl 20 (by decide) (hta _ wk_537) (fun _ h9 => h9) rfl dX12_clauseOf_104 ?_
      obtain ⟨g_247, hf_246, hg_248⟩ := (show tp_gi cy (22) (Γ_152 (44, 22, 0)) (f_150 (r_232 4)) from hI.at (show tp_r L K 44 22 0 (r_232 4) from hr_235 4 (by decide)))
      have hn_249 : vp_in (v_233 4) (22) := tl_in (by omega) (by omega)
      refine tp_iald (cy := cy) hx hb hK hP (show tp_r L K 44 22 0 (r_232 4) from hr_235 4 (by decide)).1 hf_246 hn_249 dX12_clauseOf_107 ?_
      refine lv_topi (fun z_250 ez_250 => ?_)
      have iz_250 : z_250.toInt = Γ_152 (44, 22, 0) (v_233 4).toInt.toNat := by rw [ez_250]; exact hg_248 _ (tp_pin hn_249)
      have jz_250 : z_250.toInt = Γ_152 (44, 22, 0) t0.toNat := by rw [show t0 = (v_233 4).toInt from by omega]; exact iz_250
      obtain ⟨g_252, hf_251, hg_253⟩ := (show tp_gi cy (1056) (Γ_152 (45, 1056, 0)) (f_150 (r_232 5)) from hI.at (show tp_r L K 45 1056 0 (r_232 5) from hr_235 5 (by decide)))
      have hn_254 : vp_in z_245 (1056) := tl_in (by omega) (by omega)
      have hj_255 : z_245.toNatClampNeg = (B0 + 2) := by show z_245.toInt.toNat = _; omega
      have hv_256 : z_250.toInt = A1 := by omega
      obtain ⟨Γ_257, eΓ_257⟩ : ∃ y : tk_G, y = tg Γ_152 (45, 1056, 0) (B0 + 2) A1 := ⟨_, rfl⟩
      have hI9 : tp_I cy L K Γ_257 (va_up f_150 (r_232 5) (.inl (cy 0, 1056, .inl (upd g_252 z_245.toNatClampNeg z_250)))) := by have q9 : tg Γ_152 (45, 1056, 0) (B0 + 2) A1 = tg Γ_152 (45, 1056, 0) z_245.toNatClampNeg z_250.toInt := (by rw [hj_255, hv_256]); rw [eΓ_257, q9]; exact hI.setg hU rfl (show tp_r L K 45 1056 0 (r_232 5) from hr_235 5 (by decide)) (show tp_gi cy (1056) (tgu (Γ_152 (45, 1056, 0)) _ _) _ from ⟨_, rfl, tp_gi_upd hg_253⟩)
      have hfr9 : ∀ b, (K b).1 ∉ ([39, 43, 44, 52, 45, 46] : List Nat) → va_up f_150 (r_232 5) (.inl (cy 0, 1056, .inl (upd g_252 z_245.toNatClampNeg z_250))) b = f b := tp_fr hfr (show tp_r L K 45 1056 0 (r_232 5) from hr_235 5 (by decide)) (by decide)
      refine tp_iast (cy := cy) hx hb hK hP hD hS (show tp_r L K 45 1056 0 (r_232 5) from hr_235 5 (by decide)).1 hf_251 hn_254 dX12_clauseOf_108 (fun H locs hP hD hS => ?_)
      have hP : va_P D vwCl (va_pl L (va_up f_150 (r_232 5) (.inl (cy 0, 1056, .inl (upd g_252 z_245.toNatClampNeg z_250))))) H := hP
      generalize hfe : va_up f_150 (r_232 5) (.inl (cy 0, 1056, .inl (upd g_252 z_245.toNatClampNeg z_250))) = f_258 at hP hI9 hfr9
      have hD : va_D A (va_pl L f_258) := tp_D hL hAL
      have hf_259 := (show f_258 (r_22 6) = _ from by rw [← hfe, va_up_ne _ _ (tp_ne (show tp_r L K 46 22 0 (r_22 6) from hr_25 6 (by decide)) (show tp_r L K 45 1056 0 (r_232 5) from hr_235 5 (by decide)) (by decide))]).trans hf_154
      have hf_260 := (show f_258 (r_82 4) = _ from by rw [← hfe, va_up_ne _ _ (tp_ne (show tp_r L K 44 22 0 (r_82 4) from hr_85 4 (by decide)) (show tp_r L K 45 1056 0 (r_232 5) from hr_235 5 (by decide)) (by decide))]).trans hf_155
      have hf_261 := (show f_258 o = _ from by rw [← hfe, va_up_ne _ _ (tp_ne ho (show tp_r L K 45 1056 0 (r_232 5) from hr_235 5 (by decide)) (by decide))]).trans hf_231
      have hf_262 := (show f_258 (r_232 4) = _ from by rw [← hfe, va_up_ne _ _ (tp_ne (show tp_r L K 44 22 0 (r_232 4) from hr_235 4 (by decide)) (show tp_r L K 45 1056 0 (r_232 5) from hr_235 5 (by decide)) (by decide))]).trans hf_246
      have hf_263 : f_258 (r_232 5) = .inl (cy 0, 1056, .inl (upd g_252 z_245.toNatClampNeg z_250)) := by rw [← hfe]; exact va_up_self _ _ _
      clear hfe
      have hI := hI9
      have hfr := hfr9
      clear hI9 hfr9
      clear hj_255 hv_256
      have wxΓ_257_MLEN : Γ_257 (44, 22, 0) t0.toNat = Γ_152 (44, 22, 0) t0.toNat := by rw [eΓ_257, tg_r (by decide)]
      have wxΓ_257_MCLS : Γ_257 (46, 22, 0) t0.toNat = Γ_152 (46, 22, 0) t0.toNat := by rw [eΓ_257, tg_r (by decide)]
      have wsΓ_257 : Γ_257 (45, 1056, 0) (B0 + 2) = A1 := by rw [eΓ_257]; exact tg_s
      have hgr : ∀ κ : tk_K, κ.1 ∉ ([39, 43, 44, 52, 45, 46] : List Nat) → Γ_257 κ = Γ κ := tg_fr hgr eΓ_257 (by decide)
      have hg_264 : ∀ j : Nat, j < 22 → (g_37 j).toInt = Γ_257 (46, 22, 0) j := fun j hj => by rw [eΓ_257, tg_r (by decide)]; exact hg_156 j hj
      have hg_265 : ∀ j : Nat, j < 22 → (g_97 j).toInt = Γ_257 (44, 22, 0) j := fun j hj => by rw [eΓ_257, tg_r (by decide)]; exact hg_157 j hj
      have hv_266 : ∀ i : Nat, i < 16 → (v_233 i).toInt = Γ_257 (39, 0, 0) i := fun i hi => by rw [eΓ_257, tg_r (by decide)]; exact hv_236 i hi
      have hx_267 : (v_233 0).toInt = Γ_257 (39, 0, 0) 0 := hv_266 0 (by decide)
      have hx_268 : (v_233 1).toInt = Γ_257 (39, 0, 0) 1 := hv_266 1 (by decide)
      have hx_269 : (v_233 3).toInt = Γ_257 (39, 0, 0) 3 := hv_266 3 (by decide)
      have hx_270 : (v_233 4).toInt = Γ_257 (39, 0, 0) 4 := hv_266 4 (by decide)
      have hx_271 : (v_233 5).toInt = Γ_257 (39, 0, 0) 5 := hv_266 5 (by decide)
      have hx_272 : (v_233 6).toInt = Γ_257 (39, 0, 0) 6 := hv_266 6 (by decide)
      have hx_273 : (v_233 7).toInt = Γ_257 (39, 0, 0) 7 := hv_266 7 (by decide)
      have hx_274 : (v_233 8).toInt = Γ_257 (39, 0, 0) 8 := hv_266 8 (by decide)
      have hg_275 : ∀ j : Nat, j < 22 → (g_247 j).toInt = Γ_257 (44, 22, 0) j := fun j hj => by rw [eΓ_257, tg_r (by decide)]; exact hg_248 j hj
      have hO_MCL : Γ_257 (45, 1056, 0) = tgu (tgu (tgu (tgu (Γ (45, 1056, 0)) (B0 + 0) (A0)) (B0 + 1) (A1)) (B0 + 2) ((-1 : Int))) (B0 + 2) (A1) := by rw [eΓ_257, tg_f, hO_MCL]
      have hO_MCLS : Γ_257 (46, 22, 0) = Γ (46, 22, 0) := by rw [eΓ_257, tg_rf (by decide)]; exact hO_MCLS
      have hO_SIGN : Γ_257 (43, 8800, 0) = Γ_75 (43, 8800, 0) := by rw [eΓ_257, tg_rf (by decide)]; exact hO_SIGN
      obtain ⟨hpa, hpb, hpc, hpd, _⟩ := id hp
      have hle := congrFun (show Γ_257 (44, 22, 0) = _ from by rw [eΓ_257, tg_rf (by decide)]) t0.toNat
      have hp : ps (Γ_257 (43, 8800, 0)) t0 (Γ_257 (44, 22, 0) t0.toNat) (Γ_257 (39, 0, 0) 1) T0 (Γ_257 (39, 0, 0) 5) a (d + 1) := hp.eq (show Γ_257 (43, 8800, 0) = _ from by rw [eΓ_257, tg_rf (by decide)]) rfl (congrFun (show Γ_257 (44, 22, 0) = _ from by rw [eΓ_257, tg_rf (by decide)]) _) (by omega) rfl (by omega)
      have hz : fz (Γ (43, 8800, 0)) (Γ_257 (43, 8800, 0)) (Γ (44, 22, 0)) (Γ_257 (44, 22, 0)) t0 := by rw [(show Γ_257 (43, 8800, 0) = _ from by rw [eΓ_257, tg_rf (by decide)]), (show Γ_257 (44, 22, 0) = _ from by rw [eΓ_257, tg_rf (by decide)])]; exact hz
      have hfw : fw (Γ (43, 8800, 0)) (Γ_257 (43, 8800, 0)) (Γ (44, 22, 0)) (Γ_257 (44, 22, 0)) t0 := by rw [(show Γ_257 (43, 8800, 0) = _ from by rw [eΓ_257, tg_rf (by decide)]), (show Γ_257 (44, 22, 0) = _ from by rw [eΓ_257, tg_rf (by decide)])]; exact hfw
      refine lv_aload_n hx hb dX12_clauseOf_109 rfl (lv_at hl 1 rfl) ?_
      obtain ⟨hpa, hpb, hpc, hpd, _⟩ := id hp
      obtain ⟨a, ha2⟩ : ∃ y : Nat, y = (400 * t0 + Γ_257 (44, 22, 0) t0.toNat).toNat := ⟨_, rfl⟩
      obtain ⟨d, hd2⟩ : ∃ y : Int, y = 0 := ⟨_, rfl⟩
      have hp : ps (Γ_257 (43, 8800, 0)) t0 (Γ_257 (44, 22, 0) t0.toNat) (Γ_257 (39, 0, 0) 1) T0 (Γ_257 (39, 0, 0) 5) a (d) := by rw [hd2]; exact ⟨by omega, by omega, by omega, by omega, by rw [show (400 * t0 + Γ_257 (44, 22, 0) t0.toNat).toNat - a = 0 from by omega]; exact rp0⟩
      refine tq_ciR hS (hAf _ hS.1) (tq_rV (As := []) (rest := []) ⟨hx, hb, hml, hown, hta⟩ (tp_P.pre hK hN hL hU hI hP) (tp_recv hK hP ho.1 hf_261 rfl) lk_X12_281 (r_X12_tested l D cy H.size L K Γ_257 f_258 o τ T0 t0 a d ho ((hgr _ (by decide)).trans ht) (by first | omega | (simp only [Int32.toInt_toInt64]; omega) | decide | assumption) (by first | omega | (simp only [Int32.toInt_toInt64]; omega) | decide | assumption) (by first | omega | (simp only [Int32.toInt_toInt64]; omega) | decide | assumption) (by first | omega | (simp only [Int32.toInt_toInt64]; omega) | decide | assumption) (by first | omega | (simp only [Int32.toInt_toInt64]; omega) | decide | assumption)) rfl rfl ⟨Nat.le_of_ble_eq_true rfl, Nat.le_of_ble_eq_true rfl⟩ rfl hl.1 rfl (Nat.le_of_ble_eq_true rfl) dX12_clauseOf_110 ⟨Nat.le_of_ble_eq_true rfl, Nat.le_of_ble_eq_true rfl⟩) (fun r_277 f_278 Γ_280 H locs hw_276 hP hI hc_279 hcg_281 hS => ?_)
      have hD : va_D A (va_pl L f_278) := tp_D hL hAL
      have hfr := tp_fr2 hfr hc_279 (by decide)
      have hgr : ∀ κ : tk_K, κ.1 ∉ ([39, 43, 44, 52, 45, 46] : List Nat) → Γ_280 κ = Γ κ := tg_fr2 hgr hcg_281 (by decide)
      have hf_282 := (tp_un hc_279 (show tp_r L K 46 22 0 (r_22 6) from hr_25 6 (by decide)) (by decide)).trans hf_259
      have hg_283 : ∀ j : Nat, j < 22 → (g_37 j).toInt = Γ_280 (46, 22, 0) j := fun j hj => by rw [hcg_281 _ (by decide)]; exact hg_264 j hj
      have wy_280_MCLS : Γ_280 (46, 22, 0) t0.toNat = Γ_257 (46, 22, 0) t0.toNat := congrFun (hcg_281 (46, 22, 0) (by decide)) _
      obtain ⟨hE_284, hw_276⟩ := hw_276
      have hE_284 : tl_J r_277 (ps (Γ_280 (43, 8800, 0)) t0 (Γ_280 (44, 22, 0) t0.toNat) (Γ_280 (39, 0, 0) 1) T0 (Γ_280 (39, 0, 0) 5) a (1) ∧ Γ_280 (44, 22, 0) t0.toNat ≤ Γ_280 (39, 0, 0) 1 ∧ fz (Γ_257 (43, 8800, 0)) (Γ_280 (43, 8800, 0)) (Γ_257 (44, 22, 0)) (Γ_280 (44, 22, 0)) t0) := hE_284
      have hw_276 : Γ_280 (39, 0, 0) 0 = Γ_257 (39, 0, 0) 0 ∧ Γ_280 (39, 0, 0) 4 = Γ_257 (39, 0, 0) 4 ∧ Γ_280 (39, 0, 0) 7 = Γ_257 (39, 0, 0) 7 ∧ Γ_257 (39, 0, 0) 1 ≤ Γ_280 (39, 0, 0) 1 ∧ Γ_280 (39, 0, 0) 1 ≤ T0 ∧ fw (Γ_257 (43, 8800, 0)) (Γ_280 (43, 8800, 0)) (Γ_257 (44, 22, 0)) (Γ_280 (44, 22, 0)) t0 := hw_276
      have hO_MCL : Γ_280 (45, 1056, 0) = tgu (tgu (tgu (tgu (Γ (45, 1056, 0)) (B0 + 0) (A0)) (B0 + 1) (A1)) (B0 + 2) ((-1 : Int))) (B0 + 2) (A1) := (hcg_281 (45, 1056, 0) (by decide)).trans hO_MCL
      have hO_MCLS : Γ_280 (46, 22, 0) = Γ (46, 22, 0) := (hcg_281 (46, 22, 0) (by decide)).trans hO_MCLS
      have hOp_SIGN := hO_SIGN
      have hfw := hfw.trans hw_276.2.2.2.2.2
      refine lv_if_ne (tgt := 118) hx hb dX12_clauseOf_113 (by decide) (fun c_285 => ?_) (fun c_285 => ?_)
      · have c_285 := hE_284.t c_285
        obtain ⟨hp, hsl, hz9⟩ := c_285
        have hz := hz.trans hz9
        obtain ⟨_, hL2, hM2, _, hrpT⟩ := id hp
        obtain ⟨A3, hA3⟩ : ∃ y : Int, y = Γ_280 (44, 22, 0) t0.toNat := ⟨_, rfl⟩
        have hl13 : A1 ≤ A3 := by have q9 := hz9.2.1; omega
        have hT1 : rp (Γ_280 (43, 8800, 0)) (400 * t0 + A1).toNat (A3 - A1).toNat 1 := by have q9 := hrpT; rw [show (400 * t0 + Γ_280 (44, 22, 0) t0.toNat).toNat - a = (A3 - A1).toNat from by omega, show a = (400 * t0 + A1).toNat from by omega] at q9; exact q9
        have hS1 : rp (Γ_280 (43, 8800, 0)) (400 * t0 + A0).toNat (A1 - A0).toNat 1 := hS1.ext (fun j9 q9 => by rw [hz9.2.2 _ (Or.inl (by omega)), hOp_SIGN])
        have hO_SIGN : Γ_280 (43, 8800, 0) = Γ_280 (43, 8800, 0) := rfl
        refine lv_aload_n hx hb dX12_clauseOf_118 rfl (lv_at hl 1 rfl) ?_
        obtain ⟨r_287, v_288, q_289, hf_286, hr_290, hv_291⟩ := (show tp_o_M L K 0 0 (Γ_280 (39, 0, 0)) (f_278 o) from hI.at ho)
        have hx_292 : (v_288 0).toInt = Γ_280 (39, 0, 0) 0 := hv_291 0 (by decide)
        have hx_293 : (v_288 1).toInt = Γ_280 (39, 0, 0) 1 := hv_291 1 (by decide)
        have hx_294 : (v_288 3).toInt = Γ_280 (39, 0, 0) 3 := hv_291 3 (by decide)
        have hx_295 : (v_288 4).toInt = Γ_280 (39, 0, 0) 4 := hv_291 4 (by decide)
        have hx_296 : (v_288 5).toInt = Γ_280 (39, 0, 0) 5 := hv_291 5 (by decide)
        have hx_297 : (v_288 6).toInt = Γ_280 (39, 0, 0) 6 := hv_291 6 (by decide)
        have hx_298 : (v_288 7).toInt = Γ_280 (39, 0, 0) 7 := hv_291 7 (by decide)
        have hx_299 : (v_288 8).toInt = Γ_280 (39, 0, 0) 8 := hv_291 8 (by decide)
        refine tp_get (cy := cy) (ci := 12) (v := .ref (r_287 5)) (C := RX12) (T := TX12) (N := 49) hx hb hta inlX12 hown hK hP ho.1 hf_286 rfl 6 (by decide) (hta _ wk_155) (fun _ h9 => h9) rfl dX12_clauseOf_119 ?_
        refine lv_iload_n hx hb dX12_clauseOf_122 rfl (lv_at hl 0 rfl) ?_
        refine lv_iconst (v := 3) hx hb dX12_clauseOf_123 (by decide) ?_
        refine lv_iadd hx hb dX12_clauseOf_124 ?_
        refine lv_topi (fun z_300 ez_300 => ?_)
        try have iz_300 : z_300.toInt = z_42.toInt + (3 : Int) := by rw [ez_300]; exact tl_addN z_42 3 rfl rfl (by omega) (by omega)
        refine lv_aload_n hx hb dX12_clauseOf_125 rfl (lv_at hl 1 rfl) ?_
        refine tp_get (cy := cy) (ci := 12) (v := .ref (r_287 4)) (C := RX12) (T := TX12) (N := 49) hx hb hta inlX12 hown hK hP ho.1 hf_286 rfl 5 (by decide) (hta _ wk_154) (fun _ h9 => h9) rfl dX12_clauseOf_126 ?_
        refine lv_aload_n hx hb dX12_clauseOf_129 rfl (lv_at hl 1 rfl) ?_
        refine tp_get (cy := cy) (ci := 12) (v := .int (v_288 4)) (C := RX12) (T := TX12) (N := 49) hx hb hta inlX12 hown hK hP ho.1 hf_286 rfl 20 (by decide) (hta _ wk_537) (fun _ h9 => h9) rfl dX12_clauseOf_130 ?_
        obtain ⟨g_302, hf_301, hg_303⟩ := (show tp_gi cy (22) (Γ_280 (44, 22, 0)) (f_278 (r_287 4)) from hI.at (show tp_r L K 44 22 0 (r_287 4) from hr_290 4 (by decide)))
        have hn_304 : vp_in (v_288 4) (22) := tl_in (by omega) (by omega)
        refine tp_iald (cy := cy) hx hb hK hP (show tp_r L K 44 22 0 (r_287 4) from hr_290 4 (by decide)).1 hf_301 hn_304 dX12_clauseOf_133 ?_
        refine lv_topi (fun z_305 ez_305 => ?_)
        have iz_305 : z_305.toInt = Γ_280 (44, 22, 0) (v_288 4).toInt.toNat := by rw [ez_305]; exact hg_303 _ (tp_pin hn_304)
        have jz_305 : z_305.toInt = Γ_280 (44, 22, 0) t0.toNat := by rw [show t0 = (v_288 4).toInt from by omega]; exact iz_305
        obtain ⟨g_307, hf_306, hg_308⟩ := (show tp_gi cy (1056) (Γ_280 (45, 1056, 0)) (f_278 (r_287 5)) from hI.at (show tp_r L K 45 1056 0 (r_287 5) from hr_290 5 (by decide)))
        have hn_309 : vp_in z_300 (1056) := tl_in (by omega) (by omega)
        have hj_310 : z_300.toNatClampNeg = (B0 + 3) := by show z_300.toInt.toNat = _; omega
        have hv_311 : z_305.toInt = A3 := by omega
        obtain ⟨Γ_312, eΓ_312⟩ : ∃ y : tk_G, y = tg Γ_280 (45, 1056, 0) (B0 + 3) A3 := ⟨_, rfl⟩
        have hI9 : tp_I cy L K Γ_312 (va_up f_278 (r_287 5) (.inl (cy 0, 1056, .inl (upd g_307 z_300.toNatClampNeg z_305)))) := by have q9 : tg Γ_280 (45, 1056, 0) (B0 + 3) A3 = tg Γ_280 (45, 1056, 0) z_300.toNatClampNeg z_305.toInt := (by rw [hj_310, hv_311]); rw [eΓ_312, q9]; exact hI.setg hU rfl (show tp_r L K 45 1056 0 (r_287 5) from hr_290 5 (by decide)) (show tp_gi cy (1056) (tgu (Γ_280 (45, 1056, 0)) _ _) _ from ⟨_, rfl, tp_gi_upd hg_308⟩)
        have hfr9 : ∀ b, (K b).1 ∉ ([39, 43, 44, 52, 45, 46] : List Nat) → va_up f_278 (r_287 5) (.inl (cy 0, 1056, .inl (upd g_307 z_300.toNatClampNeg z_305))) b = f b := tp_fr hfr (show tp_r L K 45 1056 0 (r_287 5) from hr_290 5 (by decide)) (by decide)
        refine tp_iast (cy := cy) hx hb hK hP hD hS (show tp_r L K 45 1056 0 (r_287 5) from hr_290 5 (by decide)).1 hf_306 hn_309 dX12_clauseOf_134 (fun H locs hP hD hS => ?_)
        have hP : va_P D vwCl (va_pl L (va_up f_278 (r_287 5) (.inl (cy 0, 1056, .inl (upd g_307 z_300.toNatClampNeg z_305))))) H := hP
        generalize hfe : va_up f_278 (r_287 5) (.inl (cy 0, 1056, .inl (upd g_307 z_300.toNatClampNeg z_305))) = f_313 at hP hI9 hfr9
        have hD : va_D A (va_pl L f_313) := tp_D hL hAL
        have hf_314 := (show f_313 (r_22 6) = _ from by rw [← hfe, va_up_ne _ _ (tp_ne (show tp_r L K 46 22 0 (r_22 6) from hr_25 6 (by decide)) (show tp_r L K 45 1056 0 (r_287 5) from hr_290 5 (by decide)) (by decide))]).trans hf_282
        have hf_315 := (show f_313 o = _ from by rw [← hfe, va_up_ne _ _ (tp_ne ho (show tp_r L K 45 1056 0 (r_287 5) from hr_290 5 (by decide)) (by decide))]).trans hf_286
        have hf_316 := (show f_313 (r_287 4) = _ from by rw [← hfe, va_up_ne _ _ (tp_ne (show tp_r L K 44 22 0 (r_287 4) from hr_290 4 (by decide)) (show tp_r L K 45 1056 0 (r_287 5) from hr_290 5 (by decide)) (by decide))]).trans hf_301
        have hf_317 : f_313 (r_287 5) = .inl (cy 0, 1056, .inl (upd g_307 z_300.toNatClampNeg z_305)) := by rw [← hfe]; exact va_up_self _ _ _
        clear hfe
        have hI := hI9
        have hfr := hfr9
        clear hI9 hfr9
        clear hj_310 hv_311
        have wxΓ_312_MLEN : Γ_312 (44, 22, 0) t0.toNat = Γ_280 (44, 22, 0) t0.toNat := by rw [eΓ_312, tg_r (by decide)]
        have wxΓ_312_MCLS : Γ_312 (46, 22, 0) t0.toNat = Γ_280 (46, 22, 0) t0.toNat := by rw [eΓ_312, tg_r (by decide)]
        have wsΓ_312 : Γ_312 (45, 1056, 0) (B0 + 3) = A3 := by rw [eΓ_312]; exact tg_s
        have hgr : ∀ κ : tk_K, κ.1 ∉ ([39, 43, 44, 52, 45, 46] : List Nat) → Γ_312 κ = Γ κ := tg_fr hgr eΓ_312 (by decide)
        have hg_318 : ∀ j : Nat, j < 22 → (g_37 j).toInt = Γ_312 (46, 22, 0) j := fun j hj => by rw [eΓ_312, tg_r (by decide)]; exact hg_283 j hj
        have hv_319 : ∀ i : Nat, i < 16 → (v_288 i).toInt = Γ_312 (39, 0, 0) i := fun i hi => by rw [eΓ_312, tg_r (by decide)]; exact hv_291 i hi
        have hx_320 : (v_288 0).toInt = Γ_312 (39, 0, 0) 0 := hv_319 0 (by decide)
        have hx_321 : (v_288 1).toInt = Γ_312 (39, 0, 0) 1 := hv_319 1 (by decide)
        have hx_322 : (v_288 3).toInt = Γ_312 (39, 0, 0) 3 := hv_319 3 (by decide)
        have hx_323 : (v_288 4).toInt = Γ_312 (39, 0, 0) 4 := hv_319 4 (by decide)
        have hx_324 : (v_288 5).toInt = Γ_312 (39, 0, 0) 5 := hv_319 5 (by decide)
        have hx_325 : (v_288 6).toInt = Γ_312 (39, 0, 0) 6 := hv_319 6 (by decide)
        have hx_326 : (v_288 7).toInt = Γ_312 (39, 0, 0) 7 := hv_319 7 (by decide)
        have hx_327 : (v_288 8).toInt = Γ_312 (39, 0, 0) 8 := hv_319 8 (by decide)
        have hg_328 : ∀ j : Nat, j < 22 → (g_302 j).toInt = Γ_312 (44, 22, 0) j := fun j hj => by rw [eΓ_312, tg_r (by decide)]; exact hg_303 j hj
        have hO_MCL : Γ_312 (45, 1056, 0) = tgu (tgu (tgu (tgu (tgu (Γ (45, 1056, 0)) (B0 + 0) (A0)) (B0 + 1) (A1)) (B0 + 2) ((-1 : Int))) (B0 + 2) (A1)) (B0 + 3) (A3) := by rw [eΓ_312, tg_f, hO_MCL]
        have hO_MCLS : Γ_312 (46, 22, 0) = Γ (46, 22, 0) := by rw [eΓ_312, tg_rf (by decide)]; exact hO_MCLS
        have hO_SIGN : Γ_312 (43, 8800, 0) = Γ_280 (43, 8800, 0) := by rw [eΓ_312, tg_rf (by decide)]
        obtain ⟨hpa, hpb, hpc, hpd, _⟩ := id hp
        have hle := congrFun (show Γ_312 (44, 22, 0) = _ from by rw [eΓ_312, tg_rf (by decide)]) t0.toNat
        have hp : ps (Γ_312 (43, 8800, 0)) t0 (Γ_312 (44, 22, 0) t0.toNat) (Γ_312 (39, 0, 0) 1) T0 (Γ_312 (39, 0, 0) 5) a (1) := hp.eq (show Γ_312 (43, 8800, 0) = _ from by rw [eΓ_312, tg_rf (by decide)]) rfl (congrFun (show Γ_312 (44, 22, 0) = _ from by rw [eΓ_312, tg_rf (by decide)]) _) (by omega) rfl (by omega)
        have hz : fz (Γ (43, 8800, 0)) (Γ_312 (43, 8800, 0)) (Γ (44, 22, 0)) (Γ_312 (44, 22, 0)) t0 := by rw [(show Γ_312 (43, 8800, 0) = _ from by rw [eΓ_312, tg_rf (by decide)]), (show Γ_312 (44, 22, 0) = _ from by rw [eΓ_312, tg_rf (by decide)])]; exact hz
        have hfw : fw (Γ (43, 8800, 0)) (Γ_312 (43, 8800, 0)) (Γ (44, 22, 0)) (Γ_312 (44, 22, 0)) t0 := by rw [(show Γ_312 (43, 8800, 0) = _ from by rw [eΓ_312, tg_rf (by decide)]), (show Γ_312 (44, 22, 0) = _ from by rw [eΓ_312, tg_rf (by decide)])]; exact hfw
        refine lv_aload_n hx hb dX12_clauseOf_135 rfl (lv_at hl 1 rfl) ?_
        refine tp_get (cy := cy) (ci := 12) (v := .ref (r_287 6)) (C := RX12) (T := TX12) (N := 49) hx hb hta inlX12 hown hK hP ho.1 hf_315 rfl 7 (by decide) (hta _ wk_156) (fun _ h9 => h9) rfl dX12_clauseOf_136 ?_
        refine lv_aload_n hx hb dX12_clauseOf_139 rfl (lv_at hl 1 rfl) ?_
        refine tp_get (cy := cy) (ci := 12) (v := .int (v_288 4)) (C := RX12) (T := TX12) (N := 49) hx hb hta inlX12 hown hK hP ho.1 hf_315 rfl 20 (by decide) (hta _ wk_537) (fun _ h9 => h9) rfl dX12_clauseOf_140 ?_
        refine lv_dup2_11 hx hb dX12_clauseOf_143 rfl rfl ?_
        obtain ⟨g_330, hf_329, hg_331⟩ := (show tp_gi cy (22) (Γ_312 (46, 22, 0)) (f_313 (r_287 6)) from hI.at (show tp_r L K 46 22 0 (r_287 6) from hr_290 6 (by decide)))
        have hn_332 : vp_in (v_288 4) (22) := tl_in (by omega) (by omega)
        refine tp_iald (cy := cy) hx hb hK hP (show tp_r L K 46 22 0 (r_287 6) from hr_290 6 (by decide)).1 hf_329 hn_332 dX12_clauseOf_144 ?_
        refine lv_topi (fun z_333 ez_333 => ?_)
        have iz_333 : z_333.toInt = Γ_312 (46, 22, 0) (v_288 4).toInt.toNat := by rw [ez_333]; exact hg_331 _ (tp_pin hn_332)
        have jz_333 : z_333.toInt = Γ_312 (46, 22, 0) t0.toNat := by rw [show t0 = (v_288 4).toInt from by omega]; exact iz_333
        refine lv_iconst (v := 1) hx hb dX12_clauseOf_145 (by decide) ?_
        refine lv_iadd hx hb dX12_clauseOf_146 ?_
        refine lv_topi (fun z_334 ez_334 => ?_)
        try have iz_334 : z_334.toInt = z_333.toInt + (1 : Int) := by rw [ez_334]; exact tl_addN z_333 1 rfl rfl (by omega) (by omega)
        have hn_335 : vp_in (v_288 4) (22) := tl_in (by omega) (by omega)
        have hj_336 : (v_288 4).toNatClampNeg = t0.toNat := by show (v_288 4).toInt.toNat = _; omega
        have hv_337 : z_334.toInt = Γ (46, 22, 0) t0.toNat + 1 := by omega
        obtain ⟨Γ_338, eΓ_338⟩ : ∃ y : tk_G, y = tg Γ_312 (46, 22, 0) t0.toNat (Γ (46, 22, 0) t0.toNat + 1) := ⟨_, rfl⟩
        have hI9 : tp_I cy L K Γ_338 (va_up f_313 (r_287 6) (.inl (cy 0, 22, .inl (upd g_330 (v_288 4).toNatClampNeg z_334)))) := by have q9 : tg Γ_312 (46, 22, 0) t0.toNat (Γ (46, 22, 0) t0.toNat + 1) = tg Γ_312 (46, 22, 0) (v_288 4).toNatClampNeg z_334.toInt := (by rw [hj_336, hv_337]); rw [eΓ_338, q9]; exact hI.setg hU rfl (show tp_r L K 46 22 0 (r_287 6) from hr_290 6 (by decide)) (show tp_gi cy (22) (tgu (Γ_312 (46, 22, 0)) _ _) _ from ⟨_, rfl, tp_gi_upd hg_331⟩)
        have hfr9 : ∀ b, (K b).1 ∉ ([39, 43, 44, 52, 45, 46] : List Nat) → va_up f_313 (r_287 6) (.inl (cy 0, 22, .inl (upd g_330 (v_288 4).toNatClampNeg z_334))) b = f b := tp_fr hfr (show tp_r L K 46 22 0 (r_287 6) from hr_290 6 (by decide)) (by decide)
        refine tp_iast (cy := cy) hx hb hK hP hD hS (show tp_r L K 46 22 0 (r_287 6) from hr_290 6 (by decide)).1 hf_329 hn_335 dX12_clauseOf_147 (fun H locs hP hD hS => ?_)
        have hP : va_P D vwCl (va_pl L (va_up f_313 (r_287 6) (.inl (cy 0, 22, .inl (upd g_330 (v_288 4).toNatClampNeg z_334))))) H := hP
        generalize hfe : va_up f_313 (r_287 6) (.inl (cy 0, 22, .inl (upd g_330 (v_288 4).toNatClampNeg z_334))) = f_339 at hP hI9 hfr9
        have hD : va_D A (va_pl L f_339) := tp_D hL hAL
        have hf_340 := (show f_339 o = _ from by rw [← hfe, va_up_ne _ _ (tp_ne ho (show tp_r L K 46 22 0 (r_287 6) from hr_290 6 (by decide)) (by decide))]).trans hf_315
        have hf_341 := (show f_339 (r_287 4) = _ from by rw [← hfe, va_up_ne _ _ (tp_ne (show tp_r L K 44 22 0 (r_287 4) from hr_290 4 (by decide)) (show tp_r L K 46 22 0 (r_287 6) from hr_290 6 (by decide)) (by decide))]).trans hf_316
        have hf_342 : f_339 (r_287 6) = .inl (cy 0, 22, .inl (upd g_330 (v_288 4).toNatClampNeg z_334)) := by rw [← hfe]; exact va_up_self _ _ _
        clear hfe
        have hI := hI9
        have hfr := hfr9
        clear hI9 hfr9
        clear hj_336 hv_337
        have wxΓ_338_MLEN : Γ_338 (44, 22, 0) t0.toNat = Γ_312 (44, 22, 0) t0.toNat := by rw [eΓ_338, tg_r (by decide)]
        have wsΓ_338 : Γ_338 (46, 22, 0) t0.toNat = Γ (46, 22, 0) t0.toNat + 1 := by rw [eΓ_338]; exact tg_s
        have hgr : ∀ κ : tk_K, κ.1 ∉ ([39, 43, 44, 52, 45, 46] : List Nat) → Γ_338 κ = Γ κ := tg_fr hgr eΓ_338 (by decide)
        have hv_343 : ∀ i : Nat, i < 16 → (v_288 i).toInt = Γ_338 (39, 0, 0) i := fun i hi => by rw [eΓ_338, tg_r (by decide)]; exact hv_319 i hi
        have hx_344 : (v_288 0).toInt = Γ_338 (39, 0, 0) 0 := hv_343 0 (by decide)
        have hx_345 : (v_288 1).toInt = Γ_338 (39, 0, 0) 1 := hv_343 1 (by decide)
        have hx_346 : (v_288 3).toInt = Γ_338 (39, 0, 0) 3 := hv_343 3 (by decide)
        have hx_347 : (v_288 4).toInt = Γ_338 (39, 0, 0) 4 := hv_343 4 (by decide)
        have hx_348 : (v_288 5).toInt = Γ_338 (39, 0, 0) 5 := hv_343 5 (by decide)
        have hx_349 : (v_288 6).toInt = Γ_338 (39, 0, 0) 6 := hv_343 6 (by decide)
        have hx_350 : (v_288 7).toInt = Γ_338 (39, 0, 0) 7 := hv_343 7 (by decide)
        have hx_351 : (v_288 8).toInt = Γ_338 (39, 0, 0) 8 := hv_343 8 (by decide)
        have hg_352 : ∀ j : Nat, j < 22 → (g_302 j).toInt = Γ_338 (44, 22, 0) j := fun j hj => by rw [eΓ_338, tg_r (by decide)]; exact hg_328 j hj
        have hO_MCL : Γ_338 (45, 1056, 0) = tgu (tgu (tgu (tgu (tgu (Γ (45, 1056, 0)) (B0 + 0) (A0)) (B0 + 1) (A1)) (B0 + 2) ((-1 : Int))) (B0 + 2) (A1)) (B0 + 3) (A3) := by rw [eΓ_338, tg_rf (by decide)]; exact hO_MCL
        have hO_MCLS : Γ_338 (46, 22, 0) = tgu (Γ (46, 22, 0)) t0.toNat (Γ (46, 22, 0) t0.toNat + 1) := by rw [eΓ_338, tg_f, hO_MCLS]
        have hO_SIGN : Γ_338 (43, 8800, 0) = Γ_280 (43, 8800, 0) := by rw [eΓ_338, tg_rf (by decide)]; exact hO_SIGN
        obtain ⟨hpa, hpb, hpc, hpd, _⟩ := id hp
        have hle := congrFun (show Γ_338 (44, 22, 0) = _ from by rw [eΓ_338, tg_rf (by decide)]) t0.toNat
        have hp : ps (Γ_338 (43, 8800, 0)) t0 (Γ_338 (44, 22, 0) t0.toNat) (Γ_338 (39, 0, 0) 1) T0 (Γ_338 (39, 0, 0) 5) a (1) := hp.eq (show Γ_338 (43, 8800, 0) = _ from by rw [eΓ_338, tg_rf (by decide)]) rfl (congrFun (show Γ_338 (44, 22, 0) = _ from by rw [eΓ_338, tg_rf (by decide)]) _) (by omega) rfl (by omega)
        have hz : fz (Γ (43, 8800, 0)) (Γ_338 (43, 8800, 0)) (Γ (44, 22, 0)) (Γ_338 (44, 22, 0)) t0 := by rw [(show Γ_338 (43, 8800, 0) = _ from by rw [eΓ_338, tg_rf (by decide)]), (show Γ_338 (44, 22, 0) = _ from by rw [eΓ_338, tg_rf (by decide)])]; exact hz
        have hfw : fw (Γ (43, 8800, 0)) (Γ_338 (43, 8800, 0)) (Γ (44, 22, 0)) (Γ_338 (44, 22, 0)) t0 := by rw [(show Γ_338 (43, 8800, 0) = _ from by rw [eΓ_338, tg_rf (by decide)]), (show Γ_338 (44, 22, 0) = _ from by rw [eΓ_338, tg_rf (by decide)])]; exact hfw
        obtain ⟨hpa, hpb, hpc, hpd, _⟩ := id hp
        have hq2 : tc (Γ_338 (43, 8800, 0)) (Γ (45, 1056, 0)) (Γ (46, 22, 0)) t0 (Γ (44, 22, 0) t0.toNat) := htc.fz (by omega) hz (Int.le_refl _)
        have hq3 : tc (Γ_338 (43, 8800, 0)) (Γ_338 (45, 1056, 0)) (Γ (46, 22, 0)) t0 (Γ_338 (44, 22, 0) t0.toNat) := (hq2.mono hz.2.1).mc (by omega) (fun i9 q9 => by rw [hO_MCL, tgu_n (by omega), tgu_n (by omega), tgu_n (by omega), tgu_n (by omega), tgu_n (by omega)])
        have hm0 : Γ_338 (45, 1056, 0) (B0 + 0) = A0 := by rw [hO_MCL, tgu_n (by omega), tgu_n (by omega), tgu_n (by omega), tgu_n (by omega), tgu_s]
        have hm1 : Γ_338 (45, 1056, 0) (B0 + 1) = A1 := by rw [hO_MCL, tgu_n (by omega), tgu_n (by omega), tgu_n (by omega), tgu_s]
        have hm2 : Γ_338 (45, 1056, 0) (B0 + 2) = A1 := by rw [hO_MCL, tgu_n (by omega), tgu_s]
        have hm3 : Γ_338 (45, 1056, 0) (B0 + 3) = A3 := by rw [hO_MCL, tgu_s]
        have hn9 : tcc (Γ_338 (43, 8800, 0)) (Γ_338 (45, 1056, 0)) t0 (Γ (46, 22, 0) t0.toNat) (Γ_338 (44, 22, 0) t0.toNat) := by unfold tcc; rw [clx0 hBi, clx1 hBi, clx2 hBi, clx3 hBi]; exact ⟨(Or.inr (by rw [hm2, hm3]; exact ⟨by omega, by omega, by omega, by rw [hO_SIGN]; exact hT1⟩)), (fun _ => by rw [hm0, hm1]; exact ⟨by omega, by omega, by omega, by rw [hO_SIGN]; exact hS1⟩)⟩
        have hq4 : tc (Γ_338 (43, 8800, 0)) (Γ_338 (45, 1056, 0)) (Γ_338 (46, 22, 0)) t0 (Γ_338 (44, 22, 0) t0.toNat) := by rw [hO_MCLS]; exact hq3.add hn9
        refine lv_iconst (v := 1) hx hb dX12_clauseOf_148 (by decide) ?_
        have hpo9 : tl_J (1 : Int32) (Γ_338 (46, 22, 0) = tgu (Γ (46, 22, 0)) t0.toNat (Γ (46, 22, 0) t0.toNat + 1) ∧ Γ_338 (44, 22, 0) t0.toNat ≤ Γ_338 (39, 0, 0) 1 ∧ (0 ≤ Γ_338 (39, 0, 0) 5 ∧ Γ_338 (39, 0, 0) 5 ≤ 60) ∧ tc (Γ_338 (43, 8800, 0)) (Γ_338 (45, 1056, 0)) (Γ_338 (46, 22, 0)) t0 (Γ_338 (44, 22, 0) t0.toNat)) ∧ Γ_338 (39, 0, 0) 0 = Γ (39, 0, 0) 0 ∧ Γ_338 (39, 0, 0) 4 = Γ (39, 0, 0) 4 ∧ Γ_338 (39, 0, 0) 7 = Γ (39, 0, 0) 7 ∧ Γ (39, 0, 0) 1 ≤ Γ_338 (39, 0, 0) 1 ∧ Γ_338 (39, 0, 0) 1 ≤ T0 ∧ fw (Γ (43, 8800, 0)) (Γ_338 (43, 8800, 0)) (Γ (44, 22, 0)) (Γ_338 (44, 22, 0)) t0 ∧ (∀ i : Nat, (i : Int) < 48 * t0 ∨ 48 * t0 + 48 ≤ i → Γ_338 (45, 1056, 0) i = Γ (45, 1056, 0) i) ∧ (∀ j : Nat, ¬ j = t0.toNat → Γ_338 (46, 22, 0) j = Γ (46, 22, 0) j) ∧ tc (Γ_338 (43, 8800, 0)) (Γ_338 (45, 1056, 0)) (Γ_338 (46, 22, 0)) t0 (400) ∧ (Γ (46, 22, 0) t0.toNat ≤ Γ_338 (46, 22, 0) t0.toNat ∧ Γ_338 (46, 22, 0) t0.toNat ≤ Γ (46, 22, 0) t0.toNat + 1) := ⟨(Or.inl ⟨rfl, ⟨hO_MCLS, (by omega), (by omega), hq4⟩⟩), ⟨(by omega), (by omega), (by omega), (by omega), (by omega), hfw, (fun i9 q9 => by rw [hO_MCL, tgu_n (by omega), tgu_n (by omega), tgu_n (by omega), tgu_n (by omega), tgu_n (by omega)]), (fun j9 q9 => by rw [hO_MCLS, tgu_n q9]), (hq4.mono (by omega)), (by rw [hO_MCLS, tgu_s]; omega)⟩⟩
        exact W.zret (ty := .boolean) (v := 1) hx hb hr rfl (fun t ht hW => ⟨⟨_, (f_339, Γ_338), rfl, hpo9, by rw [ht]; exact hP, hI, hfr, hgr⟩, hS.F ht⟩) hS.2.2 dX12_clauseOf_149
      · have c_285 := c_285
        refine lv_iconst (v := 0) hx hb dX12_clauseOf_116 (by decide) ?_
        have hpo9 : tl_J (0 : Int32) (Γ_280 (46, 22, 0) = tgu (Γ (46, 22, 0)) t0.toNat (Γ (46, 22, 0) t0.toNat + 1) ∧ Γ_280 (44, 22, 0) t0.toNat ≤ Γ_280 (39, 0, 0) 1 ∧ (0 ≤ Γ_280 (39, 0, 0) 5 ∧ Γ_280 (39, 0, 0) 5 ≤ 60) ∧ tc (Γ_280 (43, 8800, 0)) (Γ_280 (45, 1056, 0)) (Γ_280 (46, 22, 0)) t0 (Γ_280 (44, 22, 0) t0.toNat)) ∧ Γ_280 (39, 0, 0) 0 = Γ (39, 0, 0) 0 ∧ Γ_280 (39, 0, 0) 4 = Γ (39, 0, 0) 4 ∧ Γ_280 (39, 0, 0) 7 = Γ (39, 0, 0) 7 ∧ Γ (39, 0, 0) 1 ≤ Γ_280 (39, 0, 0) 1 ∧ Γ_280 (39, 0, 0) 1 ≤ T0 ∧ fw (Γ (43, 8800, 0)) (Γ_280 (43, 8800, 0)) (Γ (44, 22, 0)) (Γ_280 (44, 22, 0)) t0 ∧ (∀ i : Nat, (i : Int) < 48 * t0 ∨ 48 * t0 + 48 ≤ i → Γ_280 (45, 1056, 0) i = Γ (45, 1056, 0) i) ∧ (∀ j : Nat, ¬ j = t0.toNat → Γ_280 (46, 22, 0) j = Γ (46, 22, 0) j) ∧ tc (Γ_280 (43, 8800, 0)) (Γ_280 (45, 1056, 0)) (Γ_280 (46, 22, 0)) t0 (400) ∧ (Γ (46, 22, 0) t0.toNat ≤ Γ_280 (46, 22, 0) t0.toNat ∧ Γ_280 (46, 22, 0) t0.toNat ≤ Γ (46, 22, 0) t0.toNat + 1) := ⟨(Or.inr rfl), ⟨(by omega), (by omega), (by omega), (by omega), (by omega), hfw, (fun i9 q9 => by rw [hO_MCL, tgu_n (by omega), tgu_n (by omega), tgu_n (by omega), tgu_n (by omega)]), (fun j9 q9 => by rw [hO_MCLS]), (by rw [hO_MCLS]; exact ((htc.fz (by omega) hfw (Int.le_refl _)).mono (by omega)).mc (by omega) (fun i9 q9 => by rw [hO_MCL, tgu_n (by omega), tgu_n (by omega), tgu_n (by omega), tgu_n (by omega)])), (by rw [hO_MCLS]; omega)⟩⟩
        exact W.zret (ty := .boolean) (v := 0) hx hb hr rfl (fun t ht hW => ⟨⟨_, (f_278, Γ_280), rfl, hpo9, by rw [ht]; exact hP, hI, hfr, hgr⟩, hS.F ht⟩) hS.2.2 dX12_clauseOf_117
  · have c_80 := c_80
    refine lv_iconst (v := 0) hx hb dX12_clauseOf_50 (by decide) ?_
    have hpo9 : tl_J (0 : Int32) (Γ_75 (46, 22, 0) = tgu (Γ (46, 22, 0)) t0.toNat (Γ (46, 22, 0) t0.toNat + 1) ∧ Γ_75 (44, 22, 0) t0.toNat ≤ Γ_75 (39, 0, 0) 1 ∧ (0 ≤ Γ_75 (39, 0, 0) 5 ∧ Γ_75 (39, 0, 0) 5 ≤ 60) ∧ tc (Γ_75 (43, 8800, 0)) (Γ_75 (45, 1056, 0)) (Γ_75 (46, 22, 0)) t0 (Γ_75 (44, 22, 0) t0.toNat)) ∧ Γ_75 (39, 0, 0) 0 = Γ (39, 0, 0) 0 ∧ Γ_75 (39, 0, 0) 4 = Γ (39, 0, 0) 4 ∧ Γ_75 (39, 0, 0) 7 = Γ (39, 0, 0) 7 ∧ Γ (39, 0, 0) 1 ≤ Γ_75 (39, 0, 0) 1 ∧ Γ_75 (39, 0, 0) 1 ≤ T0 ∧ fw (Γ (43, 8800, 0)) (Γ_75 (43, 8800, 0)) (Γ (44, 22, 0)) (Γ_75 (44, 22, 0)) t0 ∧ (∀ i : Nat, (i : Int) < 48 * t0 ∨ 48 * t0 + 48 ≤ i → Γ_75 (45, 1056, 0) i = Γ (45, 1056, 0) i) ∧ (∀ j : Nat, ¬ j = t0.toNat → Γ_75 (46, 22, 0) j = Γ (46, 22, 0) j) ∧ tc (Γ_75 (43, 8800, 0)) (Γ_75 (45, 1056, 0)) (Γ_75 (46, 22, 0)) t0 (400) ∧ (Γ (46, 22, 0) t0.toNat ≤ Γ_75 (46, 22, 0) t0.toNat ∧ Γ_75 (46, 22, 0) t0.toNat ≤ Γ (46, 22, 0) t0.toNat + 1) := ⟨(Or.inr rfl), ⟨(by omega), (by omega), (by omega), (by omega), (by omega), hfw, (fun i9 q9 => by rw [hO_MCL, tgu_n (by omega)]), (fun j9 q9 => by rw [hO_MCLS]), (by rw [hO_MCLS]; exact ((htc.fz (by omega) hfw (Int.le_refl _)).mono (by omega)).mc (by omega) (fun i9 q9 => by rw [hO_MCL, tgu_n (by omega)])), (by rw [hO_MCLS]; omega)⟩⟩
    exact W.zret (ty := .boolean) (v := 0) hx hb hr rfl (fun t ht hW => ⟨⟨_, (f_73, Γ_75), rfl, hpo9, by rw [ht]; exact hP, hI, hfr, hgr⟩, hS.F ht⟩) hS.2.2 dX12_clauseOf_51

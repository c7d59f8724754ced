theorem dX12_sets_0 : decode cX12_sets 0 = .ok (.aload_n 1, 1) := by decide +kernel
theorem dX12_sets_1 : decode cX12_sets 1 = .ok (.aload_n 0, 1) := by decide +kernel
theorem dX12_sets_2 : decode cX12_sets 2 = .ok (.getfield 191, 3) := by decide +kernel
theorem dX12_sets_5 : decode cX12_sets 5 = .ok (.iaload, 1) := by decide +kernel
theorem dX12_sets_6 : decode cX12_sets 6 = .ok (.ifCond .lt 11, 3) := by decide +kernel
theorem dX12_sets_9 : decode cX12_sets 9 = .ok (.aload_n 0, 1) := by decide +kernel
theorem dX12_sets_10 : decode cX12_sets 10 = .ok (.iconst 4, 1) := by decide +kernel
theorem dX12_sets_11 : decode cX12_sets 11 = .ok (.iload 4, 2) := by decide +kernel
theorem dX12_sets_13 : decode cX12_sets 13 = .ok (.invokevirtual 184, 3) := by decide +kernel
theorem dX12_sets_16 : decode cX12_sets 16 = .ok (.ireturn, 1) := by decide +kernel
theorem dX12_sets_17 : decode cX12_sets 17 = .ok (.aload_n 0, 1) := by decide +kernel
theorem dX12_sets_18 : decode cX12_sets 18 = .ok (.invokevirtual 178, 3) := by decide +kernel
theorem dX12_sets_21 : decode cX12_sets 21 = .ok (.aload_n 0, 1) := by decide +kernel
theorem dX12_sets_22 : decode cX12_sets 22 = .ok (.iload_n 2, 1) := by decide +kernel
theorem dX12_sets_23 : decode cX12_sets 23 = .ok (.iload_n 3, 1) := by decide +kernel
theorem dX12_sets_24 : decode cX12_sets 24 = .ok (.invokevirtual 233, 3) := by decide +kernel
theorem dX12_sets_27 : decode cX12_sets 27 = .ok (.ifCond .ne 5, 3) := by decide +kernel
theorem dX12_sets_30 : decode cX12_sets 30 = .ok (.iconst 0, 1) := by decide +kernel
theorem dX12_sets_31 : decode cX12_sets 31 = .ok (.ireturn, 1) := by decide +kernel
theorem dX12_sets_32 : decode cX12_sets 32 = .ok (.aload_n 1, 1) := by decide +kernel
theorem dX12_sets_33 : decode cX12_sets 33 = .ok (.aload_n 0, 1) := by decide +kernel
theorem dX12_sets_34 : decode cX12_sets 34 = .ok (.getfield 191, 3) := by decide +kernel
theorem dX12_sets_37 : decode cX12_sets 37 = .ok (.aload_n 0, 1) := by decide +kernel
theorem dX12_sets_38 : decode cX12_sets 38 = .ok (.getfield 188, 3) := by decide +kernel
theorem dX12_sets_41 : decode cX12_sets 41 = .ok (.iastore, 1) := by decide +kernel
theorem dX12_sets_42 : decode cX12_sets 42 = .ok (.iconst 1, 1) := by decide +kernel
theorem dX12_sets_43 : decode cX12_sets 43 = .ok (.ireturn, 1) := by decide +kernel
set_option maxHeartbeats 4000000 in
set_option maxRecDepth 100000 in
theorem r_sets_BEAT (l : Launch) (D : va_G) (cy : Nat → ClassId) (sz : Nat) (L : List Nat) (K : Nat → tk_K) (Γ : tk_G) (f : Nat → va_E) (o : Nat) (q : Nat) (p0 : Int32) (p1 : Int32) (p2 : Int32) (τ : Nat → Int) (T0 : Int) (t0 : Int) (ho : tp_r L K 39 (0) 0 o) (hq : tp_r L K 54 (22) 0 q) (ht : Γ (41, 400, 0) = τ) (hT : Γ (39, 0, 0) 0 = T0) (hb0 : 0 ≤ Γ (39, 0, 0) 1 ∧ Γ (39, 0, 0) 1 ≤ T0 ∧ T0 ≤ 400) (h4 : Γ (39, 0, 0) 4 = t0 ∧ 0 ≤ t0 ∧ t0 ≤ 21) : Met l yX12_sets (tl_w yX12_sets cX12_sets 5 (some .boolean)) ({ frames := 2, cells := 0, slots := 0, locals := 49 }) (va_Pc [.ref o, .ref q, .int p0, .int p1, .int p2] (tp_P D cy L K Γ f sz)) (va_Qi (fun (r : Int32) (u : (Nat → va_E) × tk_G) => tl_J r ((p0.toInt ≤ u.2 (39, 0, 0) 3 ∧ u.2 (39, 0, 0) 3 ≤ p1.toInt) ∧ Γ (39, 0, 0) 1 + 1 ≤ u.2 (39, 0, 0) 1) ∧ u.2 (39, 0, 0) 0 = Γ (39, 0, 0) 0 ∧ u.2 (39, 0, 0) 4 = Γ (39, 0, 0) 4 ∧ u.2 (39, 0, 0) 5 = Γ (39, 0, 0) 5 ∧ u.2 (39, 0, 0) 6 = Γ (39, 0, 0) 6 ∧ u.2 (39, 0, 0) 7 = Γ (39, 0, 0) 7 ∧ u.2 (39, 0, 0) 8 = Γ (39, 0, 0) 8 ∧ Γ (39, 0, 0) 1 ≤ u.2 (39, 0, 0) 1 ∧ u.2 (39, 0, 0) 1 ≤ T0) (tp_BG D cy L K Γ f [39, 54]) (tp_A L sz)) 0 0 (tp_A L sz) := by
  refine Met.ofW (cc := cX12_sets) (maxL := 5) (ret := (some .boolean)) (by decide) rfl ?_
  intro p e s m args below meth c s₁ B hml hv
  obtain ⟨rfl, hsz, hP, hK, hL, hI, hN, hU⟩ := hv
  have hx := B.exec
  have hb := B.bytes
  have hr := B.returns
  have hta := tl_hta (atoms_spec (ws := tl_w yX12_sets cX12_sets 5 (some .boolean)) B.pre)
  have hown : s.vm.findClass RX12 = some m.cls := findClass_of_methodNamed B.named
  have hlocks := B.notSynchronized
  subst hsz
  have hI0 := hI
  generalize hAe : tp_A L s.heap.size = A
  have hA : ∀ q : Nat, s.heap.size ≤ q → A q := fun q h => by rw [← hAe]; exact Or.inr h
  have hAL : ∀ q ∈ L, A q := fun q h => by rw [← hAe]; exact Or.inl h
  have hAf : ∀ (H : Heap), s.heap.size ≤ H.size → ∀ q, tp_A L H.size q → A q := fun H h q hq => hq.elim (hAL q) (fun h2 => hA q (Nat.le_trans h h2))
  have hS : va_S A s.heap s.heap [] := va_S.rf
  have hD : va_D A (va_pl L f) := tp_D hL hAL
  have hfr : ∀ b, (K b).1 ∉ ([39, 54] : List Nat) → f b = f b := fun _ _ => rfl
  have hgr : ∀ κ : tk_K, κ.1 ∉ ([39, 54] : List Nat) → Γ κ = Γ κ := fun _ _ => rfl
  have hl := lv_entry ([.ref o, .ref q, .int p0, .int p1, .int p2]) (n := 5) (Nat.le_of_ble_eq_true rfl)
  rw [lg_entry_eq]
  generalize (lg_sl ([.ref o, .ref q, .int p0, .int p1, .int p2]) ++ List.replicate (5 - (lg_sl ([.ref o, .ref q, .int p0, .int p1, .int p2])).length) Slot.unset).toArray = ls at hl ⊢
  have hl : lv_has ls 5 [(0, .ref o), (1, .ref q), (2, .int p0), (3, .int p1), (4, .int p2)] := hl
  refine lv_aload_n hx hb dX12_sets_0 rfl (lv_at hl 1 rfl) ?_
  refine lv_aload_n hx hb dX12_sets_1 rfl (lv_at hl 0 rfl) ?_
  obtain ⟨r_2, v_3, q_4, hf_1, hr_5, hv_6⟩ := (show tp_o_M L K 0 0 (Γ (39, 0, 0)) (f o) from hI.at ho)
  have hx_7 : (v_3 0).toInt = Γ (39, 0, 0) 0 := hv_6 0 (by decide)
  have hx_8 : (v_3 1).toInt = Γ (39, 0, 0) 1 := hv_6 1 (by decide)
  have hx_9 : (v_3 3).toInt = Γ (39, 0, 0) 3 := hv_6 3 (by decide)
  have hx_10 : (v_3 4).toInt = Γ (39, 0, 0) 4 := hv_6 4 (by decide)
  have hx_11 : (v_3 5).toInt = Γ (39, 0, 0) 5 := hv_6 5 (by decide)
  have hx_12 : (v_3 6).toInt = Γ (39, 0, 0) 6 := hv_6 6 (by decide)
  have hx_13 : (v_3 7).toInt = Γ (39, 0, 0) 7 := hv_6 7 (by decide)
  have hx_14 : (v_3 8).toInt = Γ (39, 0, 0) 8 := hv_6 8 (by decide)
  refine tp_get (cy := cy) (ci := 12) (v := .int (v_3 4)) (C := RX12) (T := TX12) (N := 49) hx hb hta inlX12 hown hK hP ho.1 hf_1 rfl 20 (by decide) (hta _ wk_537) (fun _ h9 => h9) rfl dX12_sets_2 ?_
  obtain ⟨g_16, hf_15, hg_17⟩ := (show tp_ai cy 54 (22) (f q) from hI.at hq)
  have hn_18 : vp_in (v_3 4) (22) := tl_in (by omega) (by omega)
  refine tp_iald (cy := cy) hx hb hK hP hq.1 hf_15 hn_18 dX12_sets_5 ?_
  refine lv_topi (fun z_19 ez_19 => ?_)
  refine lv_if_lt (tgt := 17) hx hb dX12_sets_6 (by decide) (fun c_20 => ?_) (fun c_20 => ?_)
  · have c_20 : z_19.toInt < (0 : Int) := tl_lt c_20
    refine lv_aload_n hx hb dX12_sets_17 rfl (lv_at hl 0 rfl) ?_
    refine tq_cvR hS (hAf _ hS.1) (tq_rV (As := []) (rest := []) ⟨hx, hb, hml, hown, hta⟩ (tp_P.pre hK hN hL hU hI hP) (tp_recv hK hP ho.1 hf_1 rfl) lk_X12_178 (r_X12_passWord l D cy s.heap.size L K Γ f o τ T0 ho ht (by first | omega | (simp only [Int32.toInt_toInt64]; omega) | decide | assumption) (by first | omega | (simp only [Int32.toInt_toInt64]; omega) | decide | assumption)) rfl rfl ⟨Nat.le_of_ble_eq_true rfl, Nat.le_of_ble_eq_true rfl⟩ rfl hl.1 rfl (Nat.le_of_ble_eq_true rfl) dX12_sets_18 ⟨Nat.le_of_ble_eq_true rfl, Nat.le_of_ble_eq_true rfl⟩) (fun f_23 Γ_25 H locs hw_21 hP hI hc_24 hcg_26 hS => ?_)
    have hD : va_D A (va_pl L f_23) := tp_D hL hAL
    have hfr := tp_fr2 hfr hc_24 (by decide)
    have hgr : ∀ κ : tk_K, κ.1 ∉ ([39, 54] : List Nat) → Γ_25 κ = Γ κ := tg_fr2 hgr hcg_26 (by decide)
    have hf_27 := (tp_un hc_24 hq (by decide)).trans hf_15
    have hw_21 : Γ_25 (39, 0, 0) 0 = Γ (39, 0, 0) 0 ∧ Γ_25 (39, 0, 0) 3 = Γ (39, 0, 0) 3 ∧ Γ_25 (39, 0, 0) 4 = Γ (39, 0, 0) 4 ∧ Γ_25 (39, 0, 0) 5 = Γ (39, 0, 0) 5 ∧ Γ_25 (39, 0, 0) 6 = Γ (39, 0, 0) 6 ∧ Γ_25 (39, 0, 0) 7 = Γ (39, 0, 0) 7 ∧ Γ_25 (39, 0, 0) 8 = Γ (39, 0, 0) 8 ∧ Γ (39, 0, 0) 1 ≤ Γ_25 (39, 0, 0) 1 ∧ Γ_25 (39, 0, 0) 1 ≤ T0 ∧ (tr_L τ T0 (Γ (39, 0, 0) 1) → Γ (39, 0, 0) 1 + 1 ≤ Γ_25 (39, 0, 0) 1) := hw_21
    refine lv_aload_n hx hb dX12_sets_21 rfl (lv_at hl 0 rfl) ?_
    refine lv_iload_n hx hb dX12_sets_22 rfl (lv_at hl 2 rfl) ?_
    refine lv_iload_n hx hb dX12_sets_23 rfl (lv_at hl 3 rfl) ?_
    obtain ⟨r_29, v_30, q_31, hf_28, hr_32, hv_33⟩ := (show tp_o_M L K 0 0 (Γ_25 (39, 0, 0)) (f_23 o) from hI.at ho)
    have hx_34 : (v_30 0).toInt = Γ_25 (39, 0, 0) 0 := hv_33 0 (by decide)
    have hx_35 : (v_30 1).toInt = Γ_25 (39, 0, 0) 1 := hv_33 1 (by decide)
    have hx_36 : (v_30 3).toInt = Γ_25 (39, 0, 0) 3 := hv_33 3 (by decide)
    have hx_37 : (v_30 4).toInt = Γ_25 (39, 0, 0) 4 := hv_33 4 (by decide)
    have hx_38 : (v_30 5).toInt = Γ_25 (39, 0, 0) 5 := hv_33 5 (by decide)
    have hx_39 : (v_30 6).toInt = Γ_25 (39, 0, 0) 6 := hv_33 6 (by decide)
    have hx_40 : (v_30 7).toInt = Γ_25 (39, 0, 0) 7 := hv_33 7 (by decide)
    have hx_41 : (v_30 8).toInt = Γ_25 (39, 0, 0) 8 := hv_33 8 (by decide)
    refine tq_ciR hS (hAf _ hS.1) (tq_rV (As := [.int p0, .int p1]) (rest := []) ⟨hx, hb, hml, hown, hta⟩ (tp_P.pre hK hN hL hU hI hP) (tp_recv hK hP ho.1 hf_28 rfl) lk_X12_233 (r_X12_numberHere l D cy H.size L K Γ_25 f_23 o p0 p1 τ T0 ho ((hgr _ (by decide)).trans ht) (by first | omega | (simp only [Int32.toInt_toInt64]; omega) | decide | assumption) (by first | omega | (simp only [Int32.toInt_toInt64]; omega) | decide | assumption)) rfl rfl ⟨Nat.le_of_ble_eq_true rfl, Nat.le_of_ble_eq_true rfl⟩ rfl hl.1 rfl (Nat.le_of_ble_eq_true rfl) dX12_sets_24 ⟨Nat.le_of_ble_eq_true rfl, Nat.le_of_ble_eq_true rfl⟩) (fun r_43 f_44 Γ_46 H locs hw_42 hP hI hc_45 hcg_47 hS => ?_)
    have hD : va_D A (va_pl L f_44) := tp_D hL hAL
    have hfr := tp_fr2 hfr hc_45 (by decide)
    have hgr : ∀ κ : tk_K, κ.1 ∉ ([39, 54] : List Nat) → Γ_46 κ = Γ κ := tg_fr2 hgr hcg_47 (by decide)
    have hf_48 := (tp_un hc_45 hq (by decide)).trans hf_27
    obtain ⟨hE_49, hw_42⟩ := hw_42
    have hE_49 : tl_J r_43 (p0.toInt ≤ Γ_46 (39, 0, 0) 3 ∧ Γ_46 (39, 0, 0) 3 ≤ p1.toInt ∧ Γ_25 (39, 0, 0) 1 + 1 ≤ Γ_46 (39, 0, 0) 1) := hE_49
    have hw_42 : Γ_46 (39, 0, 0) 0 = Γ_25 (39, 0, 0) 0 ∧ Γ_46 (39, 0, 0) 4 = Γ_25 (39, 0, 0) 4 ∧ Γ_46 (39, 0, 0) 5 = Γ_25 (39, 0, 0) 5 ∧ Γ_46 (39, 0, 0) 6 = Γ_25 (39, 0, 0) 6 ∧ Γ_46 (39, 0, 0) 7 = Γ_25 (39, 0, 0) 7 ∧ Γ_46 (39, 0, 0) 8 = Γ_25 (39, 0, 0) 8 ∧ Γ_25 (39, 0, 0) 1 ≤ Γ_46 (39, 0, 0) 1 ∧ Γ_46 (39, 0, 0) 1 ≤ T0 := hw_42
    refine lv_if_ne (tgt := 32) hx hb dX12_sets_27 (by decide) (fun c_50 => ?_) (fun c_50 => ?_)
    · have c_50 := hE_49.t c_50
      refine lv_aload_n hx hb dX12_sets_32 rfl (lv_at hl 1 rfl) ?_
      refine lv_aload_n hx hb dX12_sets_33 rfl (lv_at hl 0 rfl) ?_
      obtain ⟨r_52, v_53, q_54, hf_51, hr_55, hv_56⟩ := (show tp_o_M L K 0 0 (Γ_46 (39, 0, 0)) (f_44 o) from hI.at ho)
      have hx_57 : (v_53 0).toInt = Γ_46 (39, 0, 0) 0 := hv_56 0 (by decide)
      have hx_58 : (v_53 1).toInt = Γ_46 (39, 0, 0) 1 := hv_56 1 (by decide)
      have hx_59 : (v_53 3).toInt = Γ_46 (39, 0, 0) 3 := hv_56 3 (by decide)
      have hx_60 : (v_53 4).toInt = Γ_46 (39, 0, 0) 4 := hv_56 4 (by decide)
      have hx_61 : (v_53 5).toInt = Γ_46 (39, 0, 0) 5 := hv_56 5 (by decide)
      have hx_62 : (v_53 6).toInt = Γ_46 (39, 0, 0) 6 := hv_56 6 (by decide)
      have hx_63 : (v_53 7).toInt = Γ_46 (39, 0, 0) 7 := hv_56 7 (by decide)
      have hx_64 : (v_53 8).toInt = Γ_46 (39, 0, 0) 8 := hv_56 8 (by decide)
      refine tp_get (cy := cy) (ci := 12) (v := .int (v_53 4)) (C := RX12) (T := TX12) (N := 49) hx hb hta inlX12 hown hK hP ho.1 hf_51 rfl 20 (by decide) (hta _ wk_537) (fun _ h9 => h9) rfl dX12_sets_34 ?_
      refine lv_aload_n hx hb dX12_sets_37 rfl (lv_at hl 0 rfl) ?_
      refine tp_get (cy := cy) (ci := 12) (v := .int (v_53 3)) (C := RX12) (T := TX12) (N := 49) hx hb hta inlX12 hown hK hP ho.1 hf_51 rfl 19 (by decide) (hta _ wk_585) (fun _ h9 => h9) rfl dX12_sets_38 ?_
      have hn_65 : vp_in (v_53 4) (22) := tl_in (by omega) (by omega)
      have hI9 : tp_I cy L K Γ_46 (va_up f_44 q (.inl (cy 0, 22, .inl (upd g_16 (v_53 4).toNatClampNeg (v_53 3))))) := hI.set hq (show tp_ai cy 54 (22) _ from ⟨_, rfl, tp_pi_upd hg_17 trivial⟩)
      have hfr9 : ∀ b, (K b).1 ∉ ([39, 54] : List Nat) → va_up f_44 q (.inl (cy 0, 22, .inl (upd g_16 (v_53 4).toNatClampNeg (v_53 3)))) b = f b := tp_fr hfr hq (by decide)
      refine tp_iast (cy := cy) hx hb hK hP hD hS hq.1 hf_48 hn_65 dX12_sets_41 (fun H locs hP hD hS => ?_)
      have hP : va_P D vwCl (va_pl L (va_up f_44 q (.inl (cy 0, 22, .inl (upd g_16 (v_53 4).toNatClampNeg (v_53 3)))))) H := hP
      generalize hfe : va_up f_44 q (.inl (cy 0, 22, .inl (upd g_16 (v_53 4).toNatClampNeg (v_53 3)))) = f_66 at hP hI9 hfr9
      have hD : va_D A (va_pl L f_66) := tp_D hL hAL
      have hf_67 : f_66 q = .inl (cy 0, 22, .inl (upd g_16 (v_53 4).toNatClampNeg (v_53 3))) := by rw [← hfe]; exact va_up_self _ _ _
      have hf_68 := (show f_66 o = _ from by rw [← hfe, va_up_ne _ _ (tp_ne ho hq (by decide))]).trans hf_51
      clear hfe
      have hI := hI9
      have hfr := hfr9
      clear hI9 hfr9
      refine lv_iconst (v := 1) hx hb dX12_sets_42 (by decide) ?_
      have hpo9 : tl_J (1 : Int32) ((p0.toInt ≤ Γ_46 (39, 0, 0) 3 ∧ Γ_46 (39, 0, 0) 3 ≤ p1.toInt) ∧ Γ (39, 0, 0) 1 + 1 ≤ Γ_46 (39, 0, 0) 1) ∧ Γ_46 (39, 0, 0) 0 = Γ (39, 0, 0) 0 ∧ Γ_46 (39, 0, 0) 4 = Γ (39, 0, 0) 4 ∧ Γ_46 (39, 0, 0) 5 = Γ (39, 0, 0) 5 ∧ Γ_46 (39, 0, 0) 6 = Γ (39, 0, 0) 6 ∧ Γ_46 (39, 0, 0) 7 = Γ (39, 0, 0) 7 ∧ Γ_46 (39, 0, 0) 8 = Γ (39, 0, 0) 8 ∧ Γ (39, 0, 0) 1 ≤ Γ_46 (39, 0, 0) 1 ∧ Γ_46 (39, 0, 0) 1 ≤ T0 := ⟨(Or.inl ⟨rfl, ⟨(by omega), (by omega)⟩⟩), ⟨(by omega), (by omega), (by omega), (by omega), (by omega), (by omega), (by omega), (by omega)⟩⟩
      exact W.zret (ty := .boolean) (v := 1) hx hb hr rfl (fun t ht hW => ⟨⟨_, (f_66, Γ_46), rfl, hpo9, by rw [ht]; exact hP, hI, hfr, hgr⟩, hS.F ht⟩) hS.2.2 dX12_sets_43
    · have c_50 := c_50
      refine lv_iconst (v := 0) hx hb dX12_sets_30 (by decide) ?_
      have hpo9 : tl_J (0 : Int32) ((p0.toInt ≤ Γ_46 (39, 0, 0) 3 ∧ Γ_46 (39, 0, 0) 3 ≤ p1.toInt) ∧ Γ (39, 0, 0) 1 + 1 ≤ Γ_46 (39, 0, 0) 1) ∧ Γ_46 (39, 0, 0) 0 = Γ (39, 0, 0) 0 ∧ Γ_46 (39, 0, 0) 4 = Γ (39, 0, 0) 4 ∧ Γ_46 (39, 0, 0) 5 = Γ (39, 0, 0) 5 ∧ Γ_46 (39, 0, 0) 6 = Γ (39, 0, 0) 6 ∧ Γ_46 (39, 0, 0) 7 = Γ (39, 0, 0) 7 ∧ Γ_46 (39, 0, 0) 8 = Γ (39, 0, 0) 8 ∧ Γ (39, 0, 0) 1 ≤ Γ_46 (39, 0, 0) 1 ∧ Γ_46 (39, 0, 0) 1 ≤ T0 := ⟨(Or.inr rfl), ⟨(by omega), (by omega), (by omega), (by omega), (by omega), (by omega), (by omega), (by omega)⟩⟩
      exact W.zret (ty := .boolean) (v := 0) hx hb hr rfl (fun t ht hW => ⟨⟨_, (f_44, Γ_46), rfl, hpo9, by rw [ht]; exact hP, hI, hfr, hgr⟩, hS.F ht⟩) hS.2.2 dX12_sets_31
  · have c_20 : (0 : Int) ≤ z_19.toInt := tl_nlt c_20
    refine lv_aload_n hx hb dX12_sets_9 rfl (lv_at hl 0 rfl) ?_
    refine lv_iconst (v := 4) hx hb dX12_sets_10 (by decide) ?_
    refine lv_iload hx hb dX12_sets_11 (lv_at hl 4 rfl) ?_
    refine tq_ciR hS (hAf _ hS.1) (tq_rV (As := [.int 4, .int p2]) (rest := []) ⟨hx, hb, hml, hown, hta⟩ (tp_P.pre hK hN hL hU hI hP) (tp_recv hK hP ho.1 hf_1 rfl) lk_X12_184 (r_X12_fails l D cy s.heap.size L K Γ f o 4 p2 ho) rfl rfl ⟨Nat.le_of_ble_eq_true rfl, Nat.le_of_ble_eq_true rfl⟩ rfl hl.1 rfl (Nat.le_of_ble_eq_true rfl) dX12_sets_13 ⟨Nat.le_of_ble_eq_true rfl, Nat.le_of_ble_eq_true rfl⟩) (fun r_70 f_71 Γ_73 H locs hw_69 hP hI hc_72 hcg_74 hS => ?_)
    have hD : va_D A (va_pl L f_71) := tp_D hL hAL
    have hfr := tp_fr2 hfr hc_72 (by decide)
    have hgr : ∀ κ : tk_K, κ.1 ∉ ([39, 54] : List Nat) → Γ_73 κ = Γ κ := tg_fr2 hgr hcg_74 (by decide)
    have hf_75 := (tp_un hc_72 hq (by decide)).trans hf_15
    obtain ⟨rfl, hw_69⟩ := hw_69
    have hw_69 : Γ_73 (39, 0, 0) 0 = Γ (39, 0, 0) 0 ∧ Γ_73 (39, 0, 0) 1 = Γ (39, 0, 0) 1 ∧ Γ_73 (39, 0, 0) 3 = Γ (39, 0, 0) 3 ∧ Γ_73 (39, 0, 0) 4 = Γ (39, 0, 0) 4 ∧ Γ_73 (39, 0, 0) 5 = Γ (39, 0, 0) 5 ∧ Γ_73 (39, 0, 0) 6 = Γ (39, 0, 0) 6 ∧ Γ_73 (39, 0, 0) 7 = Γ (39, 0, 0) 7 ∧ Γ_73 (39, 0, 0) 8 = Γ (39, 0, 0) 8 := hw_69
    have hpo9 : tl_J (0 : Int32) ((p0.toInt ≤ Γ_73 (39, 0, 0) 3 ∧ Γ_73 (39, 0, 0) 3 ≤ p1.toInt) ∧ Γ (39, 0, 0) 1 + 1 ≤ Γ_73 (39, 0, 0) 1) ∧ Γ_73 (39, 0, 0) 0 = Γ (39, 0, 0) 0 ∧ Γ_73 (39, 0, 0) 4 = Γ (39, 0, 0) 4 ∧ Γ_73 (39, 0, 0) 5 = Γ (39, 0, 0) 5 ∧ Γ_73 (39, 0, 0) 6 = Γ (39, 0, 0) 6 ∧ Γ_73 (39, 0, 0) 7 = Γ (39, 0, 0) 7 ∧ Γ_73 (39, 0, 0) 8 = Γ (39, 0, 0) 8 ∧ Γ (39, 0, 0) 1 ≤ Γ_73 (39, 0, 0) 1 ∧ Γ_73 (39, 0, 0) 1 ≤ T0 := ⟨(Or.inr rfl), ⟨(by omega), (by omega), (by omega), (by omega), (by omega), (by omega), (by omega), (by omega)⟩⟩
    exact W.zret (ty := .boolean) (v := 0) hx hb hr rfl (fun t ht hW => ⟨⟨_, (f_71, Γ_73), rfl, hpo9, by rw [ht]; exact hP, hI, hfr, hgr⟩, hS.F ht⟩) hS.2.2 dX12_sets_16
set_option maxHeartbeats 4000000 in
set_option maxRecDepth 100000 in
theorem r_sets_MNOISE (l : Launch) (D : va_G) (cy : Nat → ClassId) (sz : Nat) (L : List Nat) (K : Nat → tk_K) (Γ : tk_G) (f : Nat → va_E) (o : Nat) (q : Nat) (p0 : Int32) (p1 : Int32) (p2 : Int32) (τ : Nat → Int) (T0 : Int) (t0 : Int) (ho : tp_r L K 39 (0) 0 o) (hq : tp_r L K 56 (22) 0 q) (ht : Γ (41, 400, 0) = τ) (hT : Γ (39, 0, 0) 0 = T0) (hb0 : 0 ≤ Γ (39, 0, 0) 1 ∧ Γ (39, 0, 0) 1 ≤ T0 ∧ T0 ≤ 400) (h4 : Γ (39, 0, 0) 4 = t0 ∧ 0 ≤ t0 ∧ t0 ≤ 21) : Met l yX12_sets (tl_w yX12_sets cX12_sets 5 (some .boolean)) ({ frames := 2, cells := 0, slots := 0, locals := 49 }) (va_Pc [.ref o, .ref q, .int p0, .int p1, .int p2] (tp_P D cy L K Γ f sz)) (va_Qi (fun (r : Int32) (u : (Nat → va_E) × tk_G) => tl_J r ((p0.toInt ≤ u.2 (39, 0, 0) 3 ∧ u.2 (39, 0, 0) 3 ≤ p1.toInt) ∧ Γ (39, 0, 0) 1 + 1 ≤ u.2 (39, 0, 0) 1) ∧ u.2 (39, 0, 0) 0 = Γ (39, 0, 0) 0 ∧ u.2 (39, 0, 0) 4 = Γ (39, 0, 0) 4 ∧ u.2 (39, 0, 0) 5 = Γ (39, 0, 0) 5 ∧ u.2 (39, 0, 0) 6 = Γ (39, 0, 0) 6 ∧ u.2 (39, 0, 0) 7 = Γ (39, 0, 0) 7 ∧ u.2 (39, 0, 0) 8 = Γ (39, 0, 0) 8 ∧ Γ (39, 0, 0) 1 ≤ u.2 (39, 0, 0) 1 ∧ u.2 (39, 0, 0) 1 ≤ T0) (tp_BG D cy L K Γ f [39, 56]) (tp_A L sz)) 0 0 (tp_A L sz) := by
  refine Met.ofW (cc := cX12_sets) (maxL := 5) (ret := (some .boolean)) (by decide) rfl ?_
  intro p e s m args below meth c s₁ B hml hv
  obtain ⟨rfl, hsz, hP, hK, hL, hI, hN, hU⟩ := hv
  have hx := B.exec
  have hb := B.bytes
  have hr := B.returns
  have hta := tl_hta (atoms_spec (ws := tl_w yX12_sets cX12_sets 5 (some .boolean)) B.pre)
  have hown : s.vm.findClass RX12 = some m.cls := findClass_of_methodNamed B.named
  have hlocks := B.notSynchronized
  subst hsz
  have hI0 := hI
  generalize hAe : tp_A L s.heap.size = A
  have hA : ∀ q : Nat, s.heap.size ≤ q → A q := fun q h => by rw [← hAe]; exact Or.inr h
  have hAL : ∀ q ∈ L, A q := fun q h => by rw [← hAe]; exact Or.inl h
  have hAf : ∀ (H : Heap), s.heap.size ≤ H.size → ∀ q, tp_A L H.size q → A q := fun H h q hq => hq.elim (hAL q) (fun h2 => hA q (Nat.le_trans h h2))
  have hS : va_S A s.heap s.heap [] := va_S.rf
  have hD : va_D A (va_pl L f) := tp_D hL hAL
  have hfr : ∀ b, (K b).1 ∉ ([39, 56] : List Nat) → f b = f b := fun _ _ => rfl
  have hgr : ∀ κ : tk_K, κ.1 ∉ ([39, 56] : List Nat) → Γ κ = Γ κ := fun _ _ => rfl
  have hl := lv_entry ([.ref o, .ref q, .int p0, .int p1, .int p2]) (n := 5) (Nat.le_of_ble_eq_true rfl)
  rw [lg_entry_eq]
  generalize (lg_sl ([.ref o, .ref q, .int p0, .int p1, .int p2]) ++ List.replicate (5 - (lg_sl ([.ref o, .ref q, .int p0, .int p1, .int p2])).length) Slot.unset).toArray = ls at hl ⊢
  have hl : lv_has ls 5 [(0, .ref o), (1, .ref q), (2, .int p0), (3, .int p1), (4, .int p2)] := hl
  refine lv_aload_n hx hb dX12_sets_0 rfl (lv_at hl 1 rfl) ?_
  refine lv_aload_n hx hb dX12_sets_1 rfl (lv_at hl 0 rfl) ?_
  obtain ⟨r_2, v_3, q_4, hf_1, hr_5, hv_6⟩ := (show tp_o_M L K 0 0 (Γ (39, 0, 0)) (f o) from hI.at ho)
  have hx_7 : (v_3 0).toInt = Γ (39, 0, 0) 0 := hv_6 0 (by decide)
  have hx_8 : (v_3 1).toInt = Γ (39, 0, 0) 1 := hv_6 1 (by decide)
  have hx_9 : (v_3 3).toInt = Γ (39, 0, 0) 3 := hv_6 3 (by decide)
  have hx_10 : (v_3 4).toInt = Γ (39, 0, 0) 4 := hv_6 4 (by decide)
  have hx_11 : (v_3 5).toInt = Γ (39, 0, 0) 5 := hv_6 5 (by decide)
  have hx_12 : (v_3 6).toInt = Γ (39, 0, 0) 6 := hv_6 6 (by decide)
  have hx_13 : (v_3 7).toInt = Γ (39, 0, 0) 7 := hv_6 7 (by decide)
  have hx_14 : (v_3 8).toInt = Γ (39, 0, 0) 8 := hv_6 8 (by decide)
  refine tp_get (cy := cy) (ci := 12) (v := .int (v_3 4)) (C := RX12) (T := TX12) (N := 49) hx hb hta inlX12 hown hK hP ho.1 hf_1 rfl 20 (by decide) (hta _ wk_537) (fun _ h9 => h9) rfl dX12_sets_2 ?_
  obtain ⟨g_16, hf_15, hg_17⟩ := (show tp_ai cy 56 (22) (f q) from hI.at hq)
  have hn_18 : vp_in (v_3 4) (22) := tl_in (by omega) (by omega)
  refine tp_iald (cy := cy) hx hb hK hP hq.1 hf_15 hn_18 dX12_sets_5 ?_
  refine lv_topi (fun z_19 ez_19 => ?_)
  refine lv_if_lt (tgt := 17) hx hb dX12_sets_6 (by decide) (fun c_20 => ?_) (fun c_20 => ?_)
  · have c_20 : z_19.toInt < (0 : Int) := tl_lt c_20
    refine lv_aload_n hx hb dX12_sets_17 rfl (lv_at hl 0 rfl) ?_
    refine tq_cvR hS (hAf _ hS.1) (tq_rV (As := []) (rest := []) ⟨hx, hb, hml, hown, hta⟩ (tp_P.pre hK hN hL hU hI hP) (tp_recv hK hP ho.1 hf_1 rfl) lk_X12_178 (r_X12_passWord l D cy s.heap.size L K Γ f o τ T0 ho ht (by first | omega | (simp only [Int32.toInt_toInt64]; omega) | decide | assumption) (by first | omega | (simp only [Int32.toInt_toInt64]; omega) | decide | assumption)) rfl rfl ⟨Nat.le_of_ble_eq_true rfl, Nat.le_of_ble_eq_true rfl⟩ rfl hl.1 rfl (Nat.le_of_ble_eq_true rfl) dX12_sets_18 ⟨Nat.le_of_ble_eq_true rfl, Nat.le_of_ble_eq_true rfl⟩) (fun f_23 Γ_25 H locs hw_21 hP hI hc_24 hcg_26 hS => ?_)
    have hD : va_D A (va_pl L f_23) := tp_D hL hAL
    have hfr := tp_fr2 hfr hc_24 (by decide)
    have hgr : ∀ κ : tk_K, κ.1 ∉ ([39, 56] : List Nat) → Γ_25 κ = Γ κ := tg_fr2 hgr hcg_26 (by decide)
    have hf_27 := (tp_un hc_24 hq (by decide)).trans hf_15
    have hw_21 : Γ_25 (39, 0, 0) 0 = Γ (39, 0, 0) 0 ∧ Γ_25 (39, 0, 0) 3 = Γ (39, 0, 0) 3 ∧ Γ_25 (39, 0, 0) 4 = Γ (39, 0, 0) 4 ∧ Γ_25 (39, 0, 0) 5 = Γ (39, 0, 0) 5 ∧ Γ_25 (39, 0, 0) 6 = Γ (39, 0, 0) 6 ∧ Γ_25 (39, 0, 0) 7 = Γ (39, 0, 0) 7 ∧ Γ_25 (39, 0, 0) 8 = Γ (39, 0, 0) 8 ∧ Γ (39, 0, 0) 1 ≤ Γ_25 (39, 0, 0) 1 ∧ Γ_25 (39, 0, 0) 1 ≤ T0 ∧ (tr_L τ T0 (Γ (39, 0, 0) 1) → Γ (39, 0, 0) 1 + 1 ≤ Γ_25 (39, 0, 0) 1) := hw_21
    refine lv_aload_n hx hb dX12_sets_21 rfl (lv_at hl 0 rfl) ?_
    refine lv_iload_n hx hb dX12_sets_22 rfl (lv_at hl 2 rfl) ?_
    refine lv_iload_n hx hb dX12_sets_23 rfl (lv_at hl 3 rfl) ?_
    obtain ⟨r_29, v_30, q_31, hf_28, hr_32, hv_33⟩ := (show tp_o_M L K 0 0 (Γ_25 (39, 0, 0)) (f_23 o) from hI.at ho)
    have hx_34 : (v_30 0).toInt = Γ_25 (39, 0, 0) 0 := hv_33 0 (by decide)
    have hx_35 : (v_30 1).toInt = Γ_25 (39, 0, 0) 1 := hv_33 1 (by decide)
    have hx_36 : (v_30 3).toInt = Γ_25 (39, 0, 0) 3 := hv_33 3 (by decide)
    have hx_37 : (v_30 4).toInt = Γ_25 (39, 0, 0) 4 := hv_33 4 (by decide)
    have hx_38 : (v_30 5).toInt = Γ_25 (39, 0, 0) 5 := hv_33 5 (by decide)
    have hx_39 : (v_30 6).toInt = Γ_25 (39, 0, 0) 6 := hv_33 6 (by decide)
    have hx_40 : (v_30 7).toInt = Γ_25 (39, 0, 0) 7 := hv_33 7 (by decide)
    have hx_41 : (v_30 8).toInt = Γ_25 (39, 0, 0) 8 := hv_33 8 (by decide)
    refine tq_ciR hS (hAf _ hS.1) (tq_rV (As := [.int p0, .int p1]) (rest := []) ⟨hx, hb, hml, hown, hta⟩ (tp_P.pre hK hN hL hU hI hP) (tp_recv hK hP ho.1 hf_28 rfl) lk_X12_233 (r_X12_numberHere l D cy H.size L K Γ_25 f_23 o p0 p1 τ T0 ho ((hgr _ (by decide)).trans ht) (by first | omega | (simp only [Int32.toInt_toInt64]; omega) | decide | assumption) (by first | omega | (simp only [Int32.toInt_toInt64]; omega) | decide | assumption)) rfl rfl ⟨Nat.le_of_ble_eq_true rfl, Nat.le_of_ble_eq_true rfl⟩ rfl hl.1 rfl (Nat.le_of_ble_eq_true rfl) dX12_sets_24 ⟨Nat.le_of_ble_eq_true rfl, Nat.le_of_ble_eq_true rfl⟩) (fun r_43 f_44 Γ_46 H locs hw_42 hP hI hc_45 hcg_47 hS => ?_)
    have hD : va_D A (va_pl L f_44) := tp_D hL hAL
    have hfr := tp_fr2 hfr hc_45 (by decide)
    have hgr : ∀ κ : tk_K, κ.1 ∉ ([39, 56] : List Nat) → Γ_46 κ = Γ κ := tg_fr2 hgr hcg_47 (by decide)
    have hf_48 := (tp_un hc_45 hq (by decide)).trans hf_27
    obtain ⟨hE_49, hw_42⟩ := hw_42
    have hE_49 : tl_J r_43 (p0.toInt ≤ Γ_46 (39, 0, 0) 3 ∧ Γ_46 (39, 0, 0) 3 ≤ p1.toInt ∧ Γ_25 (39, 0, 0) 1 + 1 ≤ Γ_46 (39, 0, 0) 1) := hE_49
    have hw_42 : Γ_46 (39, 0, 0) 0 = Γ_25 (39, 0, 0) 0 ∧ Γ_46 (39, 0, 0) 4 = Γ_25 (39, 0, 0) 4 ∧ Γ_46 (39, 0, 0) 5 = Γ_25 (39, 0, 0) 5 ∧ Γ_46 (39, 0, 0) 6 = Γ_25 (39, 0, 0) 6 ∧ Γ_46 (39, 0, 0) 7 = Γ_25 (39, 0, 0) 7 ∧ Γ_46 (39, 0, 0) 8 = Γ_25 (39, 0, 0) 8 ∧ Γ_25 (39, 0, 0) 1 ≤ Γ_46 (39, 0, 0) 1 ∧ Γ_46 (39, 0, 0) 1 ≤ T0 := hw_42
    refine lv_if_ne (tgt := 32) hx hb dX12_sets_27 (by decide) (fun c_50 => ?_) (fun c_50 => ?_)
    · have c_50 := hE_49.t c_50
      refine lv_aload_n hx hb dX12_sets_32 rfl (lv_at hl 1 rfl) ?_
      refine lv_aload_n hx hb dX12_sets_33 rfl (lv_at hl 0 rfl) ?_
      obtain ⟨r_52, v_53, q_54, hf_51, hr_55, hv_56⟩ := (show tp_o_M L K 0 0 (Γ_46 (39, 0, 0)) (f_44 o) from hI.at ho)
      have hx_57 : (v_53 0).toInt = Γ_46 (39, 0, 0) 0 := hv_56 0 (by decide)
      have hx_58 : (v_53 1).toInt = Γ_46 (39, 0, 0) 1 := hv_56 1 (by decide)
      have hx_59 : (v_53 3).toInt = Γ_46 (39, 0, 0) 3 := hv_56 3 (by decide)
      have hx_60 : (v_53 4).toInt = Γ_46 (39, 0, 0) 4 := hv_56 4 (by decide)
      have hx_61 : (v_53 5).toInt = Γ_46 (39, 0, 0) 5 := hv_56 5 (by decide)
      have hx_62 : (v_53 6).toInt = Γ_46 (39, 0, 0) 6 := hv_56 6 (by decide)
      have hx_63 : (v_53 7).toInt = Γ_46 (39, 0, 0) 7 := hv_56 7 (by decide)
      have hx_64 : (v_53 8).toInt = Γ_46 (39, 0, 0) 8 := hv_56 8 (by decide)
      refine tp_get (cy := cy) (ci := 12) (v := .int (v_53 4)) (C := RX12) (T := TX12) (N := 49) hx hb hta inlX12 hown hK hP ho.1 hf_51 rfl 20 (by decide) (hta _ wk_537) (fun _ h9 => h9) rfl dX12_sets_34 ?_
      refine lv_aload_n hx hb dX12_sets_37 rfl (lv_at hl 0 rfl) ?_
      refine tp_get (cy := cy) (ci := 12) (v := .int (v_53 3)) (C := RX12) (T := TX12) (N := 49) hx hb hta inlX12 hown hK hP ho.1 hf_51 rfl 19 (by decide) (hta _ wk_585) (fun _ h9 => h9) rfl dX12_sets_38 ?_
      have hn_65 : vp_in (v_53 4) (22) := tl_in (by omega) (by omega)
      have hI9 : tp_I cy L K Γ_46 (va_up f_44 q (.inl (cy 0, 22, .inl (upd g_16 (v_53 4).toNatClampNeg (v_53 3))))) := hI.set hq (show tp_ai cy 56 (22) _ from ⟨_, rfl, tp_pi_upd hg_17 trivial⟩)
      have hfr9 : ∀ b, (K b).1 ∉ ([39, 56] : List Nat) → va_up f_44 q (.inl (cy 0, 22, .inl (upd g_16 (v_53 4).toNatClampNeg (v_53 3)))) b = f b := tp_fr hfr hq (by decide)
      refine tp_iast (cy := cy) hx hb hK hP hD hS hq.1 hf_48 hn_65 dX12_sets_41 (fun H locs hP hD hS => ?_)
      have hP : va_P D vwCl (va_pl L (va_up f_44 q (.inl (cy 0, 22, .inl (upd g_16 (v_53 4).toNatClampNeg (v_53 3)))))) H := hP
      generalize hfe : va_up f_44 q (.inl (cy 0, 22, .inl (upd g_16 (v_53 4).toNatClampNeg (v_53 3)))) = f_66 at hP hI9 hfr9
      have hD : va_D A (va_pl L f_66) := tp_D hL hAL
      have hf_67 : f_66 q = .inl (cy 0, 22, .inl (upd g_16 (v_53 4).toNatClampNeg (v_53 3))) := by rw [← hfe]; exact va_up_self _ _ _
      have hf_68 := (show f_66 o = _ from by rw [← hfe, va_up_ne _ _ (tp_ne ho hq (by decide))]).trans hf_51
      clear hfe
      have hI := hI9
      have hfr := hfr9
      clear hI9 hfr9
      refine lv_iconst (v := 1) hx hb dX12_sets_42 (by decide) ?_
      have hpo9 : tl_J (1 : Int32) ((p0.toInt ≤ Γ_46 (39, 0, 0) 3 ∧ Γ_46 (39, 0, 0) 3 ≤ p1.toInt) ∧ Γ (39, 0, 0) 1 + 1 ≤ Γ_46 (39, 0, 0) 1) ∧ Γ_46 (39, 0, 0) 0 = Γ (39, 0, 0) 0 ∧ Γ_46 (39, 0, 0) 4 = Γ (39, 0, 0) 4 ∧ Γ_46 (39, 0, 0) 5 = Γ (39, 0, 0) 5 ∧ Γ_46 (39, 0, 0) 6 = Γ (39, 0, 0) 6 ∧ Γ_46 (39, 0, 0) 7 = Γ (39, 0, 0) 7 ∧ Γ_46 (39, 0, 0) 8 = Γ (39, 0, 0) 8 ∧ Γ (39, 0, 0) 1 ≤ Γ_46 (39, 0, 0) 1 ∧ Γ_46 (39, 0, 0) 1 ≤ T0 := ⟨(Or.inl ⟨rfl, ⟨(by omega), (by omega)⟩⟩), ⟨(by omega), (by omega), (by omega), (by omega), (by omega), (by omega), (by omega), (by omega)⟩⟩
      exact W.zret (ty := .boolean) (v := 1) hx hb hr rfl (fun t ht hW => ⟨⟨_, (f_66, Γ_46), rfl, hpo9, by rw [ht]; exact hP, hI, hfr, hgr⟩, hS.F ht⟩) hS.2.2 dX12_sets_43
    · have c_50 := c_50
      refine lv_iconst (v := 0) hx hb dX12_sets_30 (by decide) ?_
      have hpo9 : tl_J (0 : Int32) ((p0.toInt ≤ Γ_46 (39, 0, 0) 3 ∧ Γ_46 (39, 0, 0) 3 ≤ p1.toInt) ∧ Γ (39, 0, 0) 1 + 1 ≤ Γ_46 (39, 0, 0) 1) ∧ Γ_46 (39, 0, 0) 0 = Γ (39, 0, 0) 0 ∧ Γ_46 (39, 0, 0) 4 = Γ (39, 0, 0) 4 ∧ Γ_46 (39, 0, 0) 5 = Γ (39, 0, 0) 5 ∧ Γ_46 (39, 0, 0) 6 = Γ (39, 0, 0) 6 ∧ Γ_46 (39, 0, 0) 7 = Γ (39, 0, 0) 7 ∧ Γ_46 (39, 0, 0) 8 = Γ (39, 0, 0) 8 ∧ Γ (39, 0, 0) 1 ≤ Γ_46 (39, 0, 0) 1 ∧ Γ_46 (39, 0, 0) 1 ≤ T0 := ⟨(Or.inr rfl), ⟨(by omega), (by omega), (by omega), (by omega), (by omega), (by omega), (by omega), (by omega)⟩⟩
      exact W.zret (ty := .boolean) (v := 0) hx hb hr rfl (fun t ht hW => ⟨⟨_, (f_44, Γ_46), rfl, hpo9, by rw [ht]; exact hP, hI, hfr, hgr⟩, hS.F ht⟩) hS.2.2 dX12_sets_31
  · have c_20 : (0 : Int) ≤ z_19.toInt := tl_nlt c_20
    refine lv_aload_n hx hb dX12_sets_9 rfl (lv_at hl 0 rfl) ?_
    refine lv_iconst (v := 4) hx hb dX12_sets_10 (by decide) ?_
    refine lv_iload hx hb dX12_sets_11 (lv_at hl 4 rfl) ?_
    refine tq_ciR hS (hAf _ hS.1) (tq_rV (As := [.int 4, .int p2]) (rest := []) ⟨hx, hb, hml, hown, hta⟩ (tp_P.pre hK hN hL hU hI hP) (tp_recv hK hP ho.1 hf_1 rfl) lk_X12_184 (r_X12_fails l D cy s.heap.size L K Γ f o 4 p2 ho) rfl rfl ⟨Nat.le_of_ble_eq_true rfl, Nat.le_of_ble_eq_true rfl⟩ rfl hl.1 rfl (Nat.le_of_ble_eq_true rfl) dX12_sets_13 ⟨Nat.le_of_ble_eq_true rfl, Nat.le_of_ble_eq_true rfl⟩) (fun r_70 f_71 Γ_73 H locs hw_69 hP hI hc_72 hcg_74 hS => ?_)
    have hD : va_D A (va_pl L f_71) := tp_D hL hAL
    have hfr := tp_fr2 hfr hc_72 (by decide)
    have hgr : ∀ κ : tk_K, κ.1 ∉ ([39, 56] : List Nat) → Γ_73 κ = Γ κ := tg_fr2 hgr hcg_74 (by decide)
    have hf_75 := (tp_un hc_72 hq (by decide)).trans hf_15
    obtain ⟨rfl, hw_69⟩ := hw_69
    have hw_69 : Γ_73 (39, 0, 0) 0 = Γ (39, 0, 0) 0 ∧ Γ_73 (39, 0, 0) 1 = Γ (39, 0, 0) 1 ∧ Γ_73 (39, 0, 0) 3 = Γ (39, 0, 0) 3 ∧ Γ_73 (39, 0, 0) 4 = Γ (39, 0, 0) 4 ∧ Γ_73 (39, 0, 0) 5 = Γ (39, 0, 0) 5 ∧ Γ_73 (39, 0, 0) 6 = Γ (39, 0, 0) 6 ∧ Γ_73 (39, 0, 0) 7 = Γ (39, 0, 0) 7 ∧ Γ_73 (39, 0, 0) 8 = Γ (39, 0, 0) 8 := hw_69
    have hpo9 : tl_J (0 : Int32) ((p0.toInt ≤ Γ_73 (39, 0, 0) 3 ∧ Γ_73 (39, 0, 0) 3 ≤ p1.toInt) ∧ Γ (39, 0, 0) 1 + 1 ≤ Γ_73 (39, 0, 0) 1) ∧ Γ_73 (39, 0, 0) 0 = Γ (39, 0, 0) 0 ∧ Γ_73 (39, 0, 0) 4 = Γ (39, 0, 0) 4 ∧ Γ_73 (39, 0, 0) 5 = Γ (39, 0, 0) 5 ∧ Γ_73 (39, 0, 0) 6 = Γ (39, 0, 0) 6 ∧ Γ_73 (39, 0, 0) 7 = Γ (39, 0, 0) 7 ∧ Γ_73 (39, 0, 0) 8 = Γ (39, 0, 0) 8 ∧ Γ (39, 0, 0) 1 ≤ Γ_73 (39, 0, 0) 1 ∧ Γ_73 (39, 0, 0) 1 ≤ T0 := ⟨(Or.inr rfl), ⟨(by omega), (by omega), (by omega), (by omega), (by omega), (by omega), (by omega), (by omega)⟩⟩
    exact W.zret (ty := .boolean) (v := 0) hx hb hr rfl (fun t ht hW => ⟨⟨_, (f_71, Γ_73), rfl, hpo9, by rw [ht]; exact hP, hI, hfr, hgr⟩, hS.F ht⟩) hS.2.2 dX12_sets_16
set_option maxHeartbeats 4000000 in
set_option maxRecDepth 100000 in
theorem r_sets_MBENDS (l : Launch) (D : va_G) (cy : Nat → ClassId) (sz : Nat) (L : List Nat) (K : Nat → tk_K) (Γ : tk_G) (f : Nat → va_E) (o : Nat) (q : Nat) (p0 : Int32) (p1 : Int32) (p2 : Int32) (τ : Nat → Int) (T0 : Int) (t0 : Int) (ho : tp_r L K 39 (0) 0 o) (hq : tp_r L K 48 (22) 0 q) (ht : Γ (41, 400, 0) = τ) (hT : Γ (39, 0, 0) 0 = T0) (hb0 : 0 ≤ Γ (39, 0, 0) 1 ∧ Γ (39, 0, 0) 1 ≤ T0 ∧ T0 ≤ 400) (h4 : Γ (39, 0, 0) 4 = t0 ∧ 0 ≤ t0 ∧ t0 ≤ 21) : Met l yX12_sets (tl_w yX12_sets cX12_sets 5 (some .boolean)) ({ frames := 2, cells := 0, slots := 0, locals := 49 }) (va_Pc [.ref o, .ref q, .int p0, .int p1, .int p2] (tp_P D cy L K Γ f sz)) (va_Qi (fun (r : Int32) (u : (Nat → va_E) × tk_G) => tl_J r ((p0.toInt ≤ u.2 (39, 0, 0) 3 ∧ u.2 (39, 0, 0) 3 ≤ p1.toInt) ∧ Γ (39, 0, 0) 1 + 1 ≤ u.2 (39, 0, 0) 1 ∧ u.2 (48, 22, 0) = tgu (Γ (48, 22, 0)) t0.toNat (u.2 (39, 0, 0) 3)) ∧ u.2 (39, 0, 0) 0 = Γ (39, 0, 0) 0 ∧ u.2 (39, 0, 0) 4 = Γ (39, 0, 0) 4 ∧ u.2 (39, 0, 0) 5 = Γ (39, 0, 0) 5 ∧ u.2 (39, 0, 0) 6 = Γ (39, 0, 0) 6 ∧ u.2 (39, 0, 0) 7 = Γ (39, 0, 0) 7 ∧ u.2 (39, 0, 0) 8 = Γ (39, 0, 0) 8 ∧ Γ (39, 0, 0) 1 ≤ u.2 (39, 0, 0) 1 ∧ u.2 (39, 0, 0) 1 ≤ T0) (tp_BG D cy L K Γ f [39, 48]) (tp_A L sz)) 0 0 (tp_A L sz) := by
  refine Met.ofW (cc := cX12_sets) (maxL := 5) (ret := (some .boolean)) (by decide) rfl ?_
  intro p e s m args below meth c s₁ B hml hv
  obtain ⟨rfl, hsz, hP, hK, hL, hI, hN, hU⟩ := hv
  have hx := B.exec
  have hb := B.bytes
  have hr := B.returns
  have hta := tl_hta (atoms_spec (ws := tl_w yX12_sets cX12_sets 5 (some .boolean)) B.pre)
  have hown : s.vm.findClass RX12 = some m.cls := findClass_of_methodNamed B.named
  have hlocks := B.notSynchronized
  subst hsz
  have hI0 := hI
  generalize hAe : tp_A L s.heap.size = A
  have hA : ∀ q : Nat, s.heap.size ≤ q → A q := fun q h => by rw [← hAe]; exact Or.inr h
  have hAL : ∀ q ∈ L, A q := fun q h => by rw [← hAe]; exact Or.inl h
  have hAf : ∀ (H : Heap), s.heap.size ≤ H.size → ∀ q, tp_A L H.size q → A q := fun H h q hq => hq.elim (hAL q) (fun h2 => hA q (Nat.le_trans h h2))
  have hS : va_S A s.heap s.heap [] := va_S.rf
  have hD : va_D A (va_pl L f) := tp_D hL hAL
  have hfr : ∀ b, (K b).1 ∉ ([39, 48] : List Nat) → f b = f b := fun _ _ => rfl
  have hgr : ∀ κ : tk_K, κ.1 ∉ ([39, 48] : List Nat) → Γ κ = Γ κ := fun _ _ => rfl
  have hl := lv_entry ([.ref o, .ref q, .int p0, .int p1, .int p2]) (n := 5) (Nat.le_of_ble_eq_true rfl)
  rw [lg_entry_eq]
  generalize (lg_sl ([.ref o, .ref q, .int p0, .int p1, .int p2]) ++ List.replicate (5 - (lg_sl ([.ref o, .ref q, .int p0, .int p1, .int p2])).length) Slot.unset).toArray = ls at hl ⊢
  have hl : lv_has ls 5 [(0, .ref o), (1, .ref q), (2, .int p0), (3, .int p1), (4, .int p2)] := hl
  refine lv_aload_n hx hb dX12_sets_0 rfl (lv_at hl 1 rfl) ?_
  refine lv_aload_n hx hb dX12_sets_1 rfl (lv_at hl 0 rfl) ?_
  obtain ⟨r_2, v_3, q_4, hf_1, hr_5, hv_6⟩ := (show tp_o_M L K 0 0 (Γ (39, 0, 0)) (f o) from hI.at ho)
  have hx_7 : (v_3 0).toInt = Γ (39, 0, 0) 0 := hv_6 0 (by decide)
  have hx_8 : (v_3 1).toInt = Γ (39, 0, 0) 1 := hv_6 1 (by decide)
  have hx_9 : (v_3 3).toInt = Γ (39, 0, 0) 3 := hv_6 3 (by decide)
  have hx_10 : (v_3 4).toInt = Γ (39, 0, 0) 4 := hv_6 4 (by decide)
  have hx_11 : (v_3 5).toInt = Γ (39, 0, 0) 5 := hv_6 5 (by decide)
  have hx_12 : (v_3 6).toInt = Γ (39, 0, 0) 6 := hv_6 6 (by decide)
  have hx_13 : (v_3 7).toInt = Γ (39, 0, 0) 7 := hv_6 7 (by decide)
  have hx_14 : (v_3 8).toInt = Γ (39, 0, 0) 8 := hv_6 8 (by decide)
  refine tp_get (cy := cy) (ci := 12) (v := .int (v_3 4)) (C := RX12) (T := TX12) (N := 49) hx hb hta inlX12 hown hK hP ho.1 hf_1 rfl 20 (by decide) (hta _ wk_537) (fun _ h9 => h9) rfl dX12_sets_2 ?_
  obtain ⟨g_16, hf_15, hg_17⟩ := (show tp_gi cy (22) (Γ (48, 22, 0)) (f q) from hI.at hq)
  have hn_18 : vp_in (v_3 4) (22) := tl_in (by omega) (by omega)
  refine tp_iald (cy := cy) hx hb hK hP hq.1 hf_15 hn_18 dX12_sets_5 ?_
  refine lv_topi (fun z_19 ez_19 => ?_)
  have iz_19 : z_19.toInt = Γ (48, 22, 0) (v_3 4).toInt.toNat := by rw [ez_19]; exact hg_17 _ (tp_pin hn_18)
  have jz_19 : z_19.toInt = Γ (48, 22, 0) t0.toNat := by rw [show t0 = (v_3 4).toInt from by omega]; exact iz_19
  refine lv_if_lt (tgt := 17) hx hb dX12_sets_6 (by decide) (fun c_20 => ?_) (fun c_20 => ?_)
  · have c_20 : z_19.toInt < (0 : Int) := tl_lt c_20
    refine lv_aload_n hx hb dX12_sets_17 rfl (lv_at hl 0 rfl) ?_
    refine tq_cvR hS (hAf _ hS.1) (tq_rV (As := []) (rest := []) ⟨hx, hb, hml, hown, hta⟩ (tp_P.pre hK hN hL hU hI hP) (tp_recv hK hP ho.1 hf_1 rfl) lk_X12_178 (r_X12_passWord l D cy s.heap.size L K Γ f o τ T0 ho ht (by first | omega | (simp only [Int32.toInt_toInt64]; omega) | decide | assumption) (by first | omega | (simp only [Int32.toInt_toInt64]; omega) | decide | assumption)) rfl rfl ⟨Nat.le_of_ble_eq_true rfl, Nat.le_of_ble_eq_true rfl⟩ rfl hl.1 rfl (Nat.le_of_ble_eq_true rfl) dX12_sets_18 ⟨Nat.le_of_ble_eq_true rfl, Nat.le_of_ble_eq_true rfl⟩) (fun f_23 Γ_25 H locs hw_21 hP hI hc_24 hcg_26 hS => ?_)
    have hD : va_D A (va_pl L f_23) := tp_D hL hAL
    have hfr := tp_fr2 hfr hc_24 (by decide)
    have hgr : ∀ κ : tk_K, κ.1 ∉ ([39, 48] : List Nat) → Γ_25 κ = Γ κ := tg_fr2 hgr hcg_26 (by decide)
    have hf_27 := (tp_un hc_24 hq (by decide)).trans hf_15
    have hg_28 : ∀ j : Nat, j < 22 → (g_16 j).toInt = Γ_25 (48, 22, 0) j := fun j hj => by rw [hcg_26 _ (by decide)]; exact hg_17 j hj
    have hw_21 : Γ_25 (39, 0, 0) 0 = Γ (39, 0, 0) 0 ∧ Γ_25 (39, 0, 0) 3 = Γ (39, 0, 0) 3 ∧ Γ_25 (39, 0, 0) 4 = Γ (39, 0, 0) 4 ∧ Γ_25 (39, 0, 0) 5 = Γ (39, 0, 0) 5 ∧ Γ_25 (39, 0, 0) 6 = Γ (39, 0, 0) 6 ∧ Γ_25 (39, 0, 0) 7 = Γ (39, 0, 0) 7 ∧ Γ_25 (39, 0, 0) 8 = Γ (39, 0, 0) 8 ∧ Γ (39, 0, 0) 1 ≤ Γ_25 (39, 0, 0) 1 ∧ Γ_25 (39, 0, 0) 1 ≤ T0 ∧ (tr_L τ T0 (Γ (39, 0, 0) 1) → Γ (39, 0, 0) 1 + 1 ≤ Γ_25 (39, 0, 0) 1) := hw_21
    refine lv_aload_n hx hb dX12_sets_21 rfl (lv_at hl 0 rfl) ?_
    refine lv_iload_n hx hb dX12_sets_22 rfl (lv_at hl 2 rfl) ?_
    refine lv_iload_n hx hb dX12_sets_23 rfl (lv_at hl 3 rfl) ?_
    obtain ⟨r_30, v_31, q_32, hf_29, hr_33, hv_34⟩ := (show tp_o_M L K 0 0 (Γ_25 (39, 0, 0)) (f_23 o) from hI.at ho)
    have hx_35 : (v_31 0).toInt = Γ_25 (39, 0, 0) 0 := hv_34 0 (by decide)
    have hx_36 : (v_31 1).toInt = Γ_25 (39, 0, 0) 1 := hv_34 1 (by decide)
    have hx_37 : (v_31 3).toInt = Γ_25 (39, 0, 0) 3 := hv_34 3 (by decide)
    have hx_38 : (v_31 4).toInt = Γ_25 (39, 0, 0) 4 := hv_34 4 (by decide)
    have hx_39 : (v_31 5).toInt = Γ_25 (39, 0, 0) 5 := hv_34 5 (by decide)
    have hx_40 : (v_31 6).toInt = Γ_25 (39, 0, 0) 6 := hv_34 6 (by decide)
    have hx_41 : (v_31 7).toInt = Γ_25 (39, 0, 0) 7 := hv_34 7 (by decide)
    have hx_42 : (v_31 8).toInt = Γ_25 (39, 0, 0) 8 := hv_34 8 (by decide)
    refine tq_ciR hS (hAf _ hS.1) (tq_rV (As := [.int p0, .int p1]) (rest := []) ⟨hx, hb, hml, hown, hta⟩ (tp_P.pre hK hN hL hU hI hP) (tp_recv hK hP ho.1 hf_29 rfl) lk_X12_233 (r_X12_numberHere l D cy H.size L K Γ_25 f_23 o p0 p1 τ T0 ho ((hgr _ (by decide)).trans ht) (by first | omega | (simp only [Int32.toInt_toInt64]; omega) | decide | assumption) (by first | omega | (simp only [Int32.toInt_toInt64]; omega) | decide | assumption)) rfl rfl ⟨Nat.le_of_ble_eq_true rfl, Nat.le_of_ble_eq_true rfl⟩ rfl hl.1 rfl (Nat.le_of_ble_eq_true rfl) dX12_sets_24 ⟨Nat.le_of_ble_eq_true rfl, Nat.le_of_ble_eq_true rfl⟩) (fun r_44 f_45 Γ_47 H locs hw_43 hP hI hc_46 hcg_48 hS => ?_)
    have hD : va_D A (va_pl L f_45) := tp_D hL hAL
    have hfr := tp_fr2 hfr hc_46 (by decide)
    have hgr : ∀ κ : tk_K, κ.1 ∉ ([39, 48] : List Nat) → Γ_47 κ = Γ κ := tg_fr2 hgr hcg_48 (by decide)
    have hf_49 := (tp_un hc_46 hq (by decide)).trans hf_27
    have hg_50 : ∀ j : Nat, j < 22 → (g_16 j).toInt = Γ_47 (48, 22, 0) j := fun j hj => by rw [hcg_48 _ (by decide)]; exact hg_28 j hj
    obtain ⟨hE_51, hw_43⟩ := hw_43
    have hE_51 : tl_J r_44 (p0.toInt ≤ Γ_47 (39, 0, 0) 3 ∧ Γ_47 (39, 0, 0) 3 ≤ p1.toInt ∧ Γ_25 (39, 0, 0) 1 + 1 ≤ Γ_47 (39, 0, 0) 1) := hE_51
    have hw_43 : Γ_47 (39, 0, 0) 0 = Γ_25 (39, 0, 0) 0 ∧ Γ_47 (39, 0, 0) 4 = Γ_25 (39, 0, 0) 4 ∧ Γ_47 (39, 0, 0) 5 = Γ_25 (39, 0, 0) 5 ∧ Γ_47 (39, 0, 0) 6 = Γ_25 (39, 0, 0) 6 ∧ Γ_47 (39, 0, 0) 7 = Γ_25 (39, 0, 0) 7 ∧ Γ_47 (39, 0, 0) 8 = Γ_25 (39, 0, 0) 8 ∧ Γ_25 (39, 0, 0) 1 ≤ Γ_47 (39, 0, 0) 1 ∧ Γ_47 (39, 0, 0) 1 ≤ T0 := hw_43
    refine lv_if_ne (tgt := 32) hx hb dX12_sets_27 (by decide) (fun c_52 => ?_) (fun c_52 => ?_)
    · have c_52 := hE_51.t c_52
      refine lv_aload_n hx hb dX12_sets_32 rfl (lv_at hl 1 rfl) ?_
      refine lv_aload_n hx hb dX12_sets_33 rfl (lv_at hl 0 rfl) ?_
      obtain ⟨r_54, v_55, q_56, hf_53, hr_57, hv_58⟩ := (show tp_o_M L K 0 0 (Γ_47 (39, 0, 0)) (f_45 o) from hI.at ho)
      have hx_59 : (v_55 0).toInt = Γ_47 (39, 0, 0) 0 := hv_58 0 (by decide)
      have hx_60 : (v_55 1).toInt = Γ_47 (39, 0, 0) 1 := hv_58 1 (by decide)
      have hx_61 : (v_55 3).toInt = Γ_47 (39, 0, 0) 3 := hv_58 3 (by decide)
      have hx_62 : (v_55 4).toInt = Γ_47 (39, 0, 0) 4 := hv_58 4 (by decide)
      have hx_63 : (v_55 5).toInt = Γ_47 (39, 0, 0) 5 := hv_58 5 (by decide)
      have hx_64 : (v_55 6).toInt = Γ_47 (39, 0, 0) 6 := hv_58 6 (by decide)
      have hx_65 : (v_55 7).toInt = Γ_47 (39, 0, 0) 7 := hv_58 7 (by decide)
      have hx_66 : (v_55 8).toInt = Γ_47 (39, 0, 0) 8 := hv_58 8 (by decide)
      refine tp_get (cy := cy) (ci := 12) (v := .int (v_55 4)) (C := RX12) (T := TX12) (N := 49) hx hb hta inlX12 hown hK hP ho.1 hf_53 rfl 20 (by decide) (hta _ wk_537) (fun _ h9 => h9) rfl dX12_sets_34 ?_
      refine lv_aload_n hx hb dX12_sets_37 rfl (lv_at hl 0 rfl) ?_
      refine tp_get (cy := cy) (ci := 12) (v := .int (v_55 3)) (C := RX12) (T := TX12) (N := 49) hx hb hta inlX12 hown hK hP ho.1 hf_53 rfl 19 (by decide) (hta _ wk_585) (fun _ h9 => h9) rfl dX12_sets_38 ?_
      have hWK : Γ_47 (48, 22, 0) = Γ (48, 22, 0) := by first | rfl | exact ((hcg_48 _ (by decide)).trans (hcg_26 _ (by decide)))
      have hn_67 : vp_in (v_55 4) (22) := tl_in (by omega) (by omega)
      have hj_68 : (v_55 4).toNatClampNeg = t0.toNat := by show (v_55 4).toInt.toNat = _; omega
      have hv_69 : (v_55 3).toInt = Γ_47 (39, 0, 0) 3 := by omega
      obtain ⟨Γ_70, eΓ_70⟩ : ∃ y : tk_G, y = tg Γ_47 (48, 22, 0) t0.toNat (Γ_47 (39, 0, 0) 3) := ⟨_, rfl⟩
      have hI9 : tp_I cy L K Γ_70 (va_up f_45 q (.inl (cy 0, 22, .inl (upd g_16 (v_55 4).toNatClampNeg (v_55 3))))) := by have q9 : tg Γ_47 (48, 22, 0) t0.toNat (Γ_47 (39, 0, 0) 3) = tg Γ_47 (48, 22, 0) (v_55 4).toNatClampNeg (v_55 3).toInt := (by rw [hj_68, hv_69]); rw [eΓ_70, q9]; exact hI.setg hU rfl hq (show tp_gi cy (22) (tgu (Γ_47 (48, 22, 0)) _ _) _ from ⟨_, rfl, tp_gi_upd hg_50⟩)
      have hfr9 : ∀ b, (K b).1 ∉ ([39, 48] : List Nat) → va_up f_45 q (.inl (cy 0, 22, .inl (upd g_16 (v_55 4).toNatClampNeg (v_55 3)))) b = f b := tp_fr hfr hq (by decide)
      refine tp_iast (cy := cy) hx hb hK hP hD hS hq.1 hf_49 hn_67 dX12_sets_41 (fun H locs hP hD hS => ?_)
      have hP : va_P D vwCl (va_pl L (va_up f_45 q (.inl (cy 0, 22, .inl (upd g_16 (v_55 4).toNatClampNeg (v_55 3)))))) H := hP
      generalize hfe : va_up f_45 q (.inl (cy 0, 22, .inl (upd g_16 (v_55 4).toNatClampNeg (v_55 3)))) = f_71 at hP hI9 hfr9
      have hD : va_D A (va_pl L f_71) := tp_D hL hAL
      have hf_72 : f_71 q = .inl (cy 0, 22, .inl (upd g_16 (v_55 4).toNatClampNeg (v_55 3))) := by rw [← hfe]; exact va_up_self _ _ _
      have hf_73 := (show f_71 o = _ from by rw [← hfe, va_up_ne _ _ (tp_ne ho hq (by decide))]).trans hf_53
      clear hfe
      have hI := hI9
      have hfr := hfr9
      clear hI9 hfr9
      have wsΓ_70 : Γ_70 (48, 22, 0) t0.toNat = Γ_47 (39, 0, 0) 3 := by rw [eΓ_70]; exact tg_s
      have hgr : ∀ κ : tk_K, κ.1 ∉ ([39, 48] : List Nat) → Γ_70 κ = Γ κ := tg_fr hgr eΓ_70 (by decide)
      have hv_74 : ∀ i : Nat, i < 16 → (v_55 i).toInt = Γ_70 (39, 0, 0) i := fun i hi => by rw [eΓ_70, tg_r (by decide)]; exact hv_58 i hi
      have hx_75 : (v_55 0).toInt = Γ_70 (39, 0, 0) 0 := hv_74 0 (by decide)
      have hx_76 : (v_55 1).toInt = Γ_70 (39, 0, 0) 1 := hv_74 1 (by decide)
      have hx_77 : (v_55 3).toInt = Γ_70 (39, 0, 0) 3 := hv_74 3 (by decide)
      have hx_78 : (v_55 4).toInt = Γ_70 (39, 0, 0) 4 := hv_74 4 (by decide)
      have hx_79 : (v_55 5).toInt = Γ_70 (39, 0, 0) 5 := hv_74 5 (by decide)
      have hx_80 : (v_55 6).toInt = Γ_70 (39, 0, 0) 6 := hv_74 6 (by decide)
      have hx_81 : (v_55 7).toInt = Γ_70 (39, 0, 0) 7 := hv_74 7 (by decide)
      have hx_82 : (v_55 8).toInt = Γ_70 (39, 0, 0) 8 := hv_74 8 (by decide)
      refine lv_iconst (v := 1) hx hb dX12_sets_42 (by decide) ?_
      have hpo9 : tl_J (1 : Int32) ((p0.toInt ≤ Γ_70 (39, 0, 0) 3 ∧ Γ_70 (39, 0, 0) 3 ≤ p1.toInt) ∧ Γ (39, 0, 0) 1 + 1 ≤ Γ_70 (39, 0, 0) 1 ∧ Γ_70 (48, 22, 0) = tgu (Γ (48, 22, 0)) t0.toNat (Γ_70 (39, 0, 0) 3)) ∧ Γ_70 (39, 0, 0) 0 = Γ (39, 0, 0) 0 ∧ Γ_70 (39, 0, 0) 4 = Γ (39, 0, 0) 4 ∧ Γ_70 (39, 0, 0) 5 = Γ (39, 0, 0) 5 ∧ Γ_70 (39, 0, 0) 6 = Γ (39, 0, 0) 6 ∧ Γ_70 (39, 0, 0) 7 = Γ (39, 0, 0) 7 ∧ Γ_70 (39, 0, 0) 8 = Γ (39, 0, 0) 8 ∧ Γ (39, 0, 0) 1 ≤ Γ_70 (39, 0, 0) 1 ∧ Γ_70 (39, 0, 0) 1 ≤ T0 := ⟨(Or.inl ⟨rfl, ⟨(by omega), (by omega), (by rw [show Γ_70 (39, 0, 0) 3 = Γ_47 (39, 0, 0) 3 from by omega, eΓ_70, tg_f, hWK])⟩⟩), ⟨(by omega), (by omega), (by omega), (by omega), (by omega), (by omega), (by omega), (by omega)⟩⟩
      exact W.zret (ty := .boolean) (v := 1) hx hb hr rfl (fun t ht hW => ⟨⟨_, (f_71, Γ_70), rfl, hpo9, by rw [ht]; exact hP, hI, hfr, hgr⟩, hS.F ht⟩) hS.2.2 dX12_sets_43
    · have c_52 := c_52
      refine lv_iconst (v := 0) hx hb dX12_sets_30 (by decide) ?_
      have hpo9 : tl_J (0 : Int32) ((p0.toInt ≤ Γ_47 (39, 0, 0) 3 ∧ Γ_47 (39, 0, 0) 3 ≤ p1.toInt) ∧ Γ (39, 0, 0) 1 + 1 ≤ Γ_47 (39, 0, 0) 1 ∧ Γ_47 (48, 22, 0) = tgu (Γ (48, 22, 0)) t0.toNat (Γ_47 (39, 0, 0) 3)) ∧ Γ_47 (39, 0, 0) 0 = Γ (39, 0, 0) 0 ∧ Γ_47 (39, 0, 0) 4 = Γ (39, 0, 0) 4 ∧ Γ_47 (39, 0, 0) 5 = Γ (39, 0, 0) 5 ∧ Γ_47 (39, 0, 0) 6 = Γ (39, 0, 0) 6 ∧ Γ_47 (39, 0, 0) 7 = Γ (39, 0, 0) 7 ∧ Γ_47 (39, 0, 0) 8 = Γ (39, 0, 0) 8 ∧ Γ (39, 0, 0) 1 ≤ Γ_47 (39, 0, 0) 1 ∧ Γ_47 (39, 0, 0) 1 ≤ T0 := ⟨(Or.inr rfl), ⟨(by omega), (by omega), (by omega), (by omega), (by omega), (by omega), (by omega), (by omega)⟩⟩
      exact W.zret (ty := .boolean) (v := 0) hx hb hr rfl (fun t ht hW => ⟨⟨_, (f_45, Γ_47), rfl, hpo9, by rw [ht]; exact hP, hI, hfr, hgr⟩, hS.F ht⟩) hS.2.2 dX12_sets_31
  · have c_20 : (0 : Int) ≤ z_19.toInt := tl_nlt c_20
    refine lv_aload_n hx hb dX12_sets_9 rfl (lv_at hl 0 rfl) ?_
    refine lv_iconst (v := 4) hx hb dX12_sets_10 (by decide) ?_
    refine lv_iload hx hb dX12_sets_11 (lv_at hl 4 rfl) ?_
    refine tq_ciR hS (hAf _ hS.1) (tq_rV (As := [.int 4, .int p2]) (rest := []) ⟨hx, hb, hml, hown, hta⟩ (tp_P.pre hK hN hL hU hI hP) (tp_recv hK hP ho.1 hf_1 rfl) lk_X12_184 (r_X12_fails l D cy s.heap.size L K Γ f o 4 p2 ho) rfl rfl ⟨Nat.le_of_ble_eq_true rfl, Nat.le_of_ble_eq_true rfl⟩ rfl hl.1 rfl (Nat.le_of_ble_eq_true rfl) dX12_sets_13 ⟨Nat.le_of_ble_eq_true rfl, Nat.le_of_ble_eq_true rfl⟩) (fun r_84 f_85 Γ_87 H locs hw_83 hP hI hc_86 hcg_88 hS => ?_)
    have hD : va_D A (va_pl L f_85) := tp_D hL hAL
    have hfr := tp_fr2 hfr hc_86 (by decide)
    have hgr : ∀ κ : tk_K, κ.1 ∉ ([39, 48] : List Nat) → Γ_87 κ = Γ κ := tg_fr2 hgr hcg_88 (by decide)
    have hf_89 := (tp_un hc_86 hq (by decide)).trans hf_15
    have hg_90 : ∀ j : Nat, j < 22 → (g_16 j).toInt = Γ_87 (48, 22, 0) j := fun j hj => by rw [hcg_88 _ (by decide)]; exact hg_17 j hj
    obtain ⟨rfl, hw_83⟩ := hw_83
    have hw_83 : Γ_87 (39, 0, 0) 0 = Γ (39, 0, 0) 0 ∧ Γ_87 (39, 0, 0) 1 = Γ (39, 0, 0) 1 ∧ Γ_87 (39, 0, 0) 3 = Γ (39, 0, 0) 3 ∧ Γ_87 (39, 0, 0) 4 = Γ (39, 0, 0) 4 ∧ Γ_87 (39, 0, 0) 5 = Γ (39, 0, 0) 5 ∧ Γ_87 (39, 0, 0) 6 = Γ (39, 0, 0) 6 ∧ Γ_87 (39, 0, 0) 7 = Γ (39, 0, 0) 7 ∧ Γ_87 (39, 0, 0) 8 = Γ (39, 0, 0) 8 := hw_83
    have hpo9 : tl_J (0 : Int32) ((p0.toInt ≤ Γ_87 (39, 0, 0) 3 ∧ Γ_87 (39, 0, 0) 3 ≤ p1.toInt) ∧ Γ (39, 0, 0) 1 + 1 ≤ Γ_87 (39, 0, 0) 1 ∧ Γ_87 (48, 22, 0) = tgu (Γ (48, 22, 0)) t0.toNat (Γ_87 (39, 0, 0) 3)) ∧ Γ_87 (39, 0, 0) 0 = Γ (39, 0, 0) 0 ∧ Γ_87 (39, 0, 0) 4 = Γ (39, 0, 0) 4 ∧ Γ_87 (39, 0, 0) 5 = Γ (39, 0, 0) 5 ∧ Γ_87 (39, 0, 0) 6 = Γ (39, 0, 0) 6 ∧ Γ_87 (39, 0, 0) 7 = Γ (39, 0, 0) 7 ∧ Γ_87 (39, 0, 0) 8 = Γ (39, 0, 0) 8 ∧ Γ (39, 0, 0) 1 ≤ Γ_87 (39, 0, 0) 1 ∧ Γ_87 (39, 0, 0) 1 ≤ T0 := ⟨(Or.inr rfl), ⟨(by omega), (by omega), (by omega), (by omega), (by omega), (by omega), (by omega), (by omega)⟩⟩
    exact W.zret (ty := .boolean) (v := 0) hx hb hr rfl (fun t ht hW => ⟨⟨_, (f_85, Γ_87), rfl, hpo9, by rw [ht]; exact hP, hI, hfr, hgr⟩, hS.F ht⟩) hS.2.2 dX12_sets_16
set_option maxHeartbeats 4000000 in
set_option maxRecDepth 100000 in
theorem r_sets_GFROM (l : Launch) (D : va_G) (cy : Nat → ClassId) (sz : Nat) (L : List Nat) (K : Nat → tk_K) (Γ : tk_G) (f : Nat → va_E) (o : Nat) (q : Nat) (p0 : Int32) (p1 : Int32) (p2 : Int32) (τ : Nat → Int) (T0 : Int) (t0 : Int) (ho : tp_r L K 39 (0) 0 o) (hq : tp_r L K 49 (22) 0 q) (ht : Γ (41, 400, 0) = τ) (hT : Γ (39, 0, 0) 0 = T0) (hb0 : 0 ≤ Γ (39, 0, 0) 1 ∧ Γ (39, 0, 0) 1 ≤ T0 ∧ T0 ≤ 400) (h4 : Γ (39, 0, 0) 4 = t0 ∧ 0 ≤ t0 ∧ t0 ≤ 21) : Met l yX12_sets (tl_w yX12_sets cX12_sets 5 (some .boolean)) ({ frames := 2, cells := 0, slots := 0, locals := 49 }) (va_Pc [.ref o, .ref q, .int p0, .int p1, .int p2] (tp_P D cy L K Γ f sz)) (va_Qi (fun (r : Int32) (u : (Nat → va_E) × tk_G) => tl_J r ((p0.toInt ≤ u.2 (39, 0, 0) 3 ∧ u.2 (39, 0, 0) 3 ≤ p1.toInt) ∧ Γ (39, 0, 0) 1 + 1 ≤ u.2 (39, 0, 0) 1 ∧ u.2 (49, 22, 0) = tgu (Γ (49, 22, 0)) t0.toNat (u.2 (39, 0, 0) 3)) ∧ u.2 (39, 0, 0) 0 = Γ (39, 0, 0) 0 ∧ u.2 (39, 0, 0) 4 = Γ (39, 0, 0) 4 ∧ u.2 (39, 0, 0) 5 = Γ (39, 0, 0) 5 ∧ u.2 (39, 0, 0) 6 = Γ (39, 0, 0) 6 ∧ u.2 (39, 0, 0) 7 = Γ (39, 0, 0) 7 ∧ u.2 (39, 0, 0) 8 = Γ (39, 0, 0) 8 ∧ Γ (39, 0, 0) 1 ≤ u.2 (39, 0, 0) 1 ∧ u.2 (39, 0, 0) 1 ≤ T0) (tp_BG D cy L K Γ f [39, 49]) (tp_A L sz)) 0 0 (tp_A L sz) := by
  refine Met.ofW (cc := cX12_sets) (maxL := 5) (ret := (some .boolean)) (by decide) rfl ?_
  intro p e s m args below meth c s₁ B hml hv
  obtain ⟨rfl, hsz, hP, hK, hL, hI, hN, hU⟩ := hv
  have hx := B.exec
  have hb := B.bytes
  have hr := B.returns
  have hta := tl_hta (atoms_spec (ws := tl_w yX12_sets cX12_sets 5 (some .boolean)) B.pre)
  have hown : s.vm.findClass RX12 = some m.cls := findClass_of_methodNamed B.named
  have hlocks := B.notSynchronized
  subst hsz
  have hI0 := hI
  generalize hAe : tp_A L s.heap.size = A
  have hA : ∀ q : Nat, s.heap.size ≤ q → A q := fun q h => by rw [← hAe]; exact Or.inr h
  have hAL : ∀ q ∈ L, A q := fun q h => by rw [← hAe]; exact Or.inl h
  have hAf : ∀ (H : Heap), s.heap.size ≤ H.size → ∀ q, tp_A L H.size q → A q := fun H h q hq => hq.elim (hAL q) (fun h2 => hA q (Nat.le_trans h h2))
  have hS : va_S A s.heap s.heap [] := va_S.rf
  have hD : va_D A (va_pl L f) := tp_D hL hAL
  have hfr : ∀ b, (K b).1 ∉ ([39, 49] : List Nat) → f b = f b := fun _ _ => rfl
  have hgr : ∀ κ : tk_K, κ.1 ∉ ([39, 49] : List Nat) → Γ κ = Γ κ := fun _ _ => rfl
  have hl := lv_entry ([.ref o, .ref q, .int p0, .int p1, .int p2]) (n := 5) (Nat.le_of_ble_eq_true rfl)
  rw [lg_entry_eq]
  generalize (lg_sl ([.ref o, .ref q, .int p0, .int p1, .int p2]) ++ List.replicate (5 - (lg_sl ([.ref o, .ref q, .int p0, .int p1, .int p2])).length) Slot.unset).toArray = ls at hl ⊢
  have hl : lv_has ls 5 [(0, .ref o), (1, .ref q), (2, .int p0), (3, .int p1), (4, .int p2)] := hl
  refine lv_aload_n hx hb dX12_sets_0 rfl (lv_at hl 1 rfl) ?_
  refine lv_aload_n hx hb dX12_sets_1 rfl (lv_at hl 0 rfl) ?_
  obtain ⟨r_2, v_3, q_4, hf_1, hr_5, hv_6⟩ := (show tp_o_M L K 0 0 (Γ (39, 0, 0)) (f o) from hI.at ho)
  have hx_7 : (v_3 0).toInt = Γ (39, 0, 0) 0 := hv_6 0 (by decide)
  have hx_8 : (v_3 1).toInt = Γ (39, 0, 0) 1 := hv_6 1 (by decide)
  have hx_9 : (v_3 3).toInt = Γ (39, 0, 0) 3 := hv_6 3 (by decide)
  have hx_10 : (v_3 4).toInt = Γ (39, 0, 0) 4 := hv_6 4 (by decide)
  have hx_11 : (v_3 5).toInt = Γ (39, 0, 0) 5 := hv_6 5 (by decide)
  have hx_12 : (v_3 6).toInt = Γ (39, 0, 0) 6 := hv_6 6 (by decide)
  have hx_13 : (v_3 7).toInt = Γ (39, 0, 0) 7 := hv_6 7 (by decide)
  have hx_14 : (v_3 8).toInt = Γ (39, 0, 0) 8 := hv_6 8 (by decide)
  refine tp_get (cy := cy) (ci := 12) (v := .int (v_3 4)) (C := RX12) (T := TX12) (N := 49) hx hb hta inlX12 hown hK hP ho.1 hf_1 rfl 20 (by decide) (hta _ wk_537) (fun _ h9 => h9) rfl dX12_sets_2 ?_
  obtain ⟨g_16, hf_15, hg_17⟩ := (show tp_gi cy (22) (Γ (49, 22, 0)) (f q) from hI.at hq)
  have hn_18 : vp_in (v_3 4) (22) := tl_in (by omega) (by omega)
  refine tp_iald (cy := cy) hx hb hK hP hq.1 hf_15 hn_18 dX12_sets_5 ?_
  refine lv_topi (fun z_19 ez_19 => ?_)
  have iz_19 : z_19.toInt = Γ (49, 22, 0) (v_3 4).toInt.toNat := by rw [ez_19]; exact hg_17 _ (tp_pin hn_18)
  have jz_19 : z_19.toInt = Γ (49, 22, 0) t0.toNat := by rw [show t0 = (v_3 4).toInt from by omega]; exact iz_19
  refine lv_if_lt (tgt := 17) hx hb dX12_sets_6 (by decide) (fun c_20 => ?_) (fun c_20 => ?_)
  · have c_20 : z_19.toInt < (0 : Int) := tl_lt c_20
    refine lv_aload_n hx hb dX12_sets_17 rfl (lv_at hl 0 rfl) ?_
    refine tq_cvR hS (hAf _ hS.1) (tq_rV (As := []) (rest := []) ⟨hx, hb, hml, hown, hta⟩ (tp_P.pre hK hN hL hU hI hP) (tp_recv hK hP ho.1 hf_1 rfl) lk_X12_178 (r_X12_passWord l D cy s.heap.size L K Γ f o τ T0 ho ht (by first | omega | (simp only [Int32.toInt_toInt64]; omega) | decide | assumption) (by first | omega | (simp only [Int32.toInt_toInt64]; omega) | decide | assumption)) rfl rfl ⟨Nat.le_of_ble_eq_true rfl, Nat.le_of_ble_eq_true rfl⟩ rfl hl.1 rfl (Nat.le_of_ble_eq_true rfl) dX12_sets_18 ⟨Nat.le_of_ble_eq_true rfl, Nat.le_of_ble_eq_true rfl⟩) (fun f_23 Γ_25 H locs hw_21 hP hI hc_24 hcg_26 hS => ?_)
    have hD : va_D A (va_pl L f_23) := tp_D hL hAL
    have hfr := tp_fr2 hfr hc_24 (by decide)
    have hgr : ∀ κ : tk_K, κ.1 ∉ ([39, 49] : List Nat) → Γ_25 κ = Γ κ := tg_fr2 hgr hcg_26 (by decide)
    have hf_27 := (tp_un hc_24 hq (by decide)).trans hf_15
    have hg_28 : ∀ j : Nat, j < 22 → (g_16 j).toInt = Γ_25 (49, 22, 0) j := fun j hj => by rw [hcg_26 _ (by decide)]; exact hg_17 j hj
    have hw_21 : Γ_25 (39, 0, 0) 0 = Γ (39, 0, 0) 0 ∧ Γ_25 (39, 0, 0) 3 = Γ (39, 0, 0) 3 ∧ Γ_25 (39, 0, 0) 4 = Γ (39, 0, 0) 4 ∧ Γ_25 (39, 0, 0) 5 = Γ (39, 0, 0) 5 ∧ Γ_25 (39, 0, 0) 6 = Γ (39, 0, 0) 6 ∧ Γ_25 (39, 0, 0) 7 = Γ (39, 0, 0) 7 ∧ Γ_25 (39, 0, 0) 8 = Γ (39, 0, 0) 8 ∧ Γ (39, 0, 0) 1 ≤ Γ_25 (39, 0, 0) 1 ∧ Γ_25 (39, 0, 0) 1 ≤ T0 ∧ (tr_L τ T0 (Γ (39, 0, 0) 1) → Γ (39, 0, 0) 1 + 1 ≤ Γ_25 (39, 0, 0) 1) := hw_21
    refine lv_aload_n hx hb dX12_sets_21 rfl (lv_at hl 0 rfl) ?_
    refine lv_iload_n hx hb dX12_sets_22 rfl (lv_at hl 2 rfl) ?_
    refine lv_iload_n hx hb dX12_sets_23 rfl (lv_at hl 3 rfl) ?_
    obtain ⟨r_30, v_31, q_32, hf_29, hr_33, hv_34⟩ := (show tp_o_M L K 0 0 (Γ_25 (39, 0, 0)) (f_23 o) from hI.at ho)
    have hx_35 : (v_31 0).toInt = Γ_25 (39, 0, 0) 0 := hv_34 0 (by decide)
    have hx_36 : (v_31 1).toInt = Γ_25 (39, 0, 0) 1 := hv_34 1 (by decide)
    have hx_37 : (v_31 3).toInt = Γ_25 (39, 0, 0) 3 := hv_34 3 (by decide)
    have hx_38 : (v_31 4).toInt = Γ_25 (39, 0, 0) 4 := hv_34 4 (by decide)
    have hx_39 : (v_31 5).toInt = Γ_25 (39, 0, 0) 5 := hv_34 5 (by decide)
    have hx_40 : (v_31 6).toInt = Γ_25 (39, 0, 0) 6 := hv_34 6 (by decide)
    have hx_41 : (v_31 7).toInt = Γ_25 (39, 0, 0) 7 := hv_34 7 (by decide)
    have hx_42 : (v_31 8).toInt = Γ_25 (39, 0, 0) 8 := hv_34 8 (by decide)
    refine tq_ciR hS (hAf _ hS.1) (tq_rV (As := [.int p0, .int p1]) (rest := []) ⟨hx, hb, hml, hown, hta⟩ (tp_P.pre hK hN hL hU hI hP) (tp_recv hK hP ho.1 hf_29 rfl) lk_X12_233 (r_X12_numberHere l D cy H.size L K Γ_25 f_23 o p0 p1 τ T0 ho ((hgr _ (by decide)).trans ht) (by first | omega | (simp only [Int32.toInt_toInt64]; omega) | decide | assumption) (by first | omega | (simp only [Int32.toInt_toInt64]; omega) | decide | assumption)) rfl rfl ⟨Nat.le_of_ble_eq_true rfl, Nat.le_of_ble_eq_true rfl⟩ rfl hl.1 rfl (Nat.le_of_ble_eq_true rfl) dX12_sets_24 ⟨Nat.le_of_ble_eq_true rfl, Nat.le_of_ble_eq_true rfl⟩) (fun r_44 f_45 Γ_47 H locs hw_43 hP hI hc_46 hcg_48 hS => ?_)
    have hD : va_D A (va_pl L f_45) := tp_D hL hAL
    have hfr := tp_fr2 hfr hc_46 (by decide)
    have hgr : ∀ κ : tk_K, κ.1 ∉ ([39, 49] : List Nat) → Γ_47 κ = Γ κ := tg_fr2 hgr hcg_48 (by decide)
    have hf_49 := (tp_un hc_46 hq (by decide)).trans hf_27
    have hg_50 : ∀ j : Nat, j < 22 → (g_16 j).toInt = Γ_47 (49, 22, 0) j := fun j hj => by rw [hcg_48 _ (by decide)]; exact hg_28 j hj
    obtain ⟨hE_51, hw_43⟩ := hw_43
    have hE_51 : tl_J r_44 (p0.toInt ≤ Γ_47 (39, 0, 0) 3 ∧ Γ_47 (39, 0, 0) 3 ≤ p1.toInt ∧ Γ_25 (39, 0, 0) 1 + 1 ≤ Γ_47 (39, 0, 0) 1) := hE_51
    have hw_43 : Γ_47 (39, 0, 0) 0 = Γ_25 (39, 0, 0) 0 ∧ Γ_47 (39, 0, 0) 4 = Γ_25 (39, 0, 0) 4 ∧ Γ_47 (39, 0, 0) 5 = Γ_25 (39, 0, 0) 5 ∧ Γ_47 (39, 0, 0) 6 = Γ_25 (39, 0, 0) 6 ∧ Γ_47 (39, 0, 0) 7 = Γ_25 (39, 0, 0) 7 ∧ Γ_47 (39, 0, 0) 8 = Γ_25 (39, 0, 0) 8 ∧ Γ_25 (39, 0, 0) 1 ≤ Γ_47 (39, 0, 0) 1 ∧ Γ_47 (39, 0, 0) 1 ≤ T0 := hw_43
    refine lv_if_ne (tgt := 32) hx hb dX12_sets_27 (by decide) (fun c_52 => ?_) (fun c_52 => ?_)
    · have c_52 := hE_51.t c_52
      refine lv_aload_n hx hb dX12_sets_32 rfl (lv_at hl 1 rfl) ?_
      refine lv_aload_n hx hb dX12_sets_33 rfl (lv_at hl 0 rfl) ?_
      obtain ⟨r_54, v_55, q_56, hf_53, hr_57, hv_58⟩ := (show tp_o_M L K 0 0 (Γ_47 (39, 0, 0)) (f_45 o) from hI.at ho)
      have hx_59 : (v_55 0).toInt = Γ_47 (39, 0, 0) 0 := hv_58 0 (by decide)
      have hx_60 : (v_55 1).toInt = Γ_47 (39, 0, 0) 1 := hv_58 1 (by decide)
      have hx_61 : (v_55 3).toInt = Γ_47 (39, 0, 0) 3 := hv_58 3 (by decide)
      have hx_62 : (v_55 4).toInt = Γ_47 (39, 0, 0) 4 := hv_58 4 (by decide)
      have hx_63 : (v_55 5).toInt = Γ_47 (39, 0, 0) 5 := hv_58 5 (by decide)
      have hx_64 : (v_55 6).toInt = Γ_47 (39, 0, 0) 6 := hv_58 6 (by decide)
      have hx_65 : (v_55 7).toInt = Γ_47 (39, 0, 0) 7 := hv_58 7 (by decide)
      have hx_66 : (v_55 8).toInt = Γ_47 (39, 0, 0) 8 := hv_58 8 (by decide)
      refine tp_get (cy := cy) (ci := 12) (v := .int (v_55 4)) (C := RX12) (T := TX12) (N := 49) hx hb hta inlX12 hown hK hP ho.1 hf_53 rfl 20 (by decide) (hta _ wk_537) (fun _ h9 => h9) rfl dX12_sets_34 ?_
      refine lv_aload_n hx hb dX12_sets_37 rfl (lv_at hl 0 rfl) ?_
      refine tp_get (cy := cy) (ci := 12) (v := .int (v_55 3)) (C := RX12) (T := TX12) (N := 49) hx hb hta inlX12 hown hK hP ho.1 hf_53 rfl 19 (by decide) (hta _ wk_585) (fun _ h9 => h9) rfl dX12_sets_38 ?_
      have hWK : Γ_47 (49, 22, 0) = Γ (49, 22, 0) := by first | rfl | exact ((hcg_48 _ (by decide)).trans (hcg_26 _ (by decide)))
      have hn_67 : vp_in (v_55 4) (22) := tl_in (by omega) (by omega)
      have hj_68 : (v_55 4).toNatClampNeg = t0.toNat := by show (v_55 4).toInt.toNat = _; omega
      have hv_69 : (v_55 3).toInt = Γ_47 (39, 0, 0) 3 := by omega
      obtain ⟨Γ_70, eΓ_70⟩ : ∃ y : tk_G, y = tg Γ_47 (49, 22, 0) t0.toNat (Γ_47 (39, 0, 0) 3) := ⟨_, rfl⟩
      have hI9 : tp_I cy L K Γ_70 (va_up f_45 q (.inl (cy 0, 22, .inl (upd g_16 (v_55 4).toNatClampNeg (v_55 3))))) := by have q9 : tg Γ_47 (49, 22, 0) t0.toNat (Γ_47 (39, 0, 0) 3) = tg Γ_47 (49, 22, 0) (v_55 4).toNatClampNeg (v_55 3).toInt := (by rw [hj_68, hv_69]); rw [eΓ_70, q9]; exact hI.setg hU rfl hq (show tp_gi cy (22) (tgu (Γ_47 (49, 22, 0)) _ _) _ from ⟨_, rfl, tp_gi_upd hg_50⟩)
      have hfr9 : ∀ b, (K b).1 ∉ ([39, 49] : List Nat) → va_up f_45 q (.inl (cy 0, 22, .inl (upd g_16 (v_55 4).toNatClampNeg (v_55 3)))) b = f b := tp_fr hfr hq (by decide)
      refine tp_iast (cy := cy) hx hb hK hP hD hS hq.1 hf_49 hn_67 dX12_sets_41 (fun H locs hP hD hS => ?_)
      have hP : va_P D vwCl (va_pl L (va_up f_45 q (.inl (cy 0, 22, .inl (upd g_16 (v_55 4).toNatClampNeg (v_55 3)))))) H := hP
      generalize hfe : va_up f_45 q (.inl (cy 0, 22, .inl (upd g_16 (v_55 4).toNatClampNeg (v_55 3)))) = f_71 at hP hI9 hfr9
      have hD : va_D A (va_pl L f_71) := tp_D hL hAL
      have hf_72 : f_71 q = .inl (cy 0, 22, .inl (upd g_16 (v_55 4).toNatClampNeg (v_55 3))) := by rw [← hfe]; exact va_up_self _ _ _
      have hf_73 := (show f_71 o = _ from by rw [← hfe, va_up_ne _ _ (tp_ne ho hq (by decide))]).trans hf_53
      clear hfe
      have hI := hI9
      have hfr := hfr9
      clear hI9 hfr9
      have wsΓ_70 : Γ_70 (49, 22, 0) t0.toNat = Γ_47 (39, 0, 0) 3 := by rw [eΓ_70]; exact tg_s
      have hgr : ∀ κ : tk_K, κ.1 ∉ ([39, 49] : List Nat) → Γ_70 κ = Γ κ := tg_fr hgr eΓ_70 (by decide)
      have hv_74 : ∀ i : Nat, i < 16 → (v_55 i).toInt = Γ_70 (39, 0, 0) i := fun i hi => by rw [eΓ_70, tg_r (by decide)]; exact hv_58 i hi
      have hx_75 : (v_55 0).toInt = Γ_70 (39, 0, 0) 0 := hv_74 0 (by decide)
      have hx_76 : (v_55 1).toInt = Γ_70 (39, 0, 0) 1 := hv_74 1 (by decide)
      have hx_77 : (v_55 3).toInt = Γ_70 (39, 0, 0) 3 := hv_74 3 (by decide)
      have hx_78 : (v_55 4).toInt = Γ_70 (39, 0, 0) 4 := hv_74 4 (by decide)
      have hx_79 : (v_55 5).toInt = Γ_70 (39, 0, 0) 5 := hv_74 5 (by decide)
      have hx_80 : (v_55 6).toInt = Γ_70 (39, 0, 0) 6 := hv_74 6 (by decide)
      have hx_81 : (v_55 7).toInt = Γ_70 (39, 0, 0) 7 := hv_74 7 (by decide)
      have hx_82 : (v_55 8).toInt = Γ_70 (39, 0, 0) 8 := hv_74 8 (by decide)
      refine lv_iconst (v := 1) hx hb dX12_sets_42 (by decide) ?_
      have hpo9 : tl_J (1 : Int32) ((p0.toInt ≤ Γ_70 (39, 0, 0) 3 ∧ Γ_70 (39, 0, 0) 3 ≤ p1.toInt) ∧ Γ (39, 0, 0) 1 + 1 ≤ Γ_70 (39, 0, 0) 1 ∧ Γ_70 (49, 22, 0) = tgu (Γ (49, 22, 0)) t0.toNat (Γ_70 (39, 0, 0) 3)) ∧ Γ_70 (39, 0, 0) 0 = Γ (39, 0, 0) 0 ∧ Γ_70 (39, 0, 0) 4 = Γ (39, 0, 0) 4 ∧ Γ_70 (39, 0, 0) 5 = Γ (39, 0, 0) 5 ∧ Γ_70 (39, 0, 0) 6 = Γ (39, 0, 0) 6 ∧ Γ_70 (39, 0, 0) 7 = Γ (39, 0, 0) 7 ∧ Γ_70 (39, 0, 0) 8 = Γ (39, 0, 0) 8 ∧ Γ (39, 0, 0) 1 ≤ Γ_70 (39, 0, 0) 1 ∧ Γ_70 (39, 0, 0) 1 ≤ T0 := ⟨(Or.inl ⟨rfl, ⟨(by omega), (by omega), (by rw [show Γ_70 (39, 0, 0) 3 = Γ_47 (39, 0, 0) 3 from by omega, eΓ_70, tg_f, hWK])⟩⟩), ⟨(by omega), (by omega), (by omega), (by omega), (by omega), (by omega), (by omega), (by omega)⟩⟩
      exact W.zret (ty := .boolean) (v := 1) hx hb hr rfl (fun t ht hW => ⟨⟨_, (f_71, Γ_70), rfl, hpo9, by rw [ht]; exact hP, hI, hfr, hgr⟩, hS.F ht⟩) hS.2.2 dX12_sets_43
    · have c_52 := c_52
      refine lv_iconst (v := 0) hx hb dX12_sets_30 (by decide) ?_
      have hpo9 : tl_J (0 : Int32) ((p0.toInt ≤ Γ_47 (39, 0, 0) 3 ∧ Γ_47 (39, 0, 0) 3 ≤ p1.toInt) ∧ Γ (39, 0, 0) 1 + 1 ≤ Γ_47 (39, 0, 0) 1 ∧ Γ_47 (49, 22, 0) = tgu (Γ (49, 22, 0)) t0.toNat (Γ_47 (39, 0, 0) 3)) ∧ Γ_47 (39, 0, 0) 0 = Γ (39, 0, 0) 0 ∧ Γ_47 (39, 0, 0) 4 = Γ (39, 0, 0) 4 ∧ Γ_47 (39, 0, 0) 5 = Γ (39, 0, 0) 5 ∧ Γ_47 (39, 0, 0) 6 = Γ (39, 0, 0) 6 ∧ Γ_47 (39, 0, 0) 7 = Γ (39, 0, 0) 7 ∧ Γ_47 (39, 0, 0) 8 = Γ (39, 0, 0) 8 ∧ Γ (39, 0, 0) 1 ≤ Γ_47 (39, 0, 0) 1 ∧ Γ_47 (39, 0, 0) 1 ≤ T0 := ⟨(Or.inr rfl), ⟨(by omega), (by omega), (by omega), (by omega), (by omega), (by omega), (by omega), (by omega)⟩⟩
      exact W.zret (ty := .boolean) (v := 0) hx hb hr rfl (fun t ht hW => ⟨⟨_, (f_45, Γ_47), rfl, hpo9, by rw [ht]; exact hP, hI, hfr, hgr⟩, hS.F ht⟩) hS.2.2 dX12_sets_31
  · have c_20 : (0 : Int) ≤ z_19.toInt := tl_nlt c_20
    refine lv_aload_n hx hb dX12_sets_9 rfl (lv_at hl 0 rfl) ?_
    refine lv_iconst (v := 4) hx hb dX12_sets_10 (by decide) ?_
    refine lv_iload hx hb dX12_sets_11 (lv_at hl 4 rfl) ?_
    refine tq_ciR hS (hAf _ hS.1) (tq_rV (As := [.int 4, .int p2]) (rest := []) ⟨hx, hb, hml, hown, hta⟩ (tp_P.pre hK hN hL hU hI hP) (tp_recv hK hP ho.1 hf_1 rfl) lk_X12_184 (r_X12_fails l D cy s.heap.size L K Γ f o 4 p2 ho) rfl rfl ⟨Nat.le_of_ble_eq_true rfl, Nat.le_of_ble_eq_true rfl⟩ rfl hl.1 rfl (Nat.le_of_ble_eq_true rfl) dX12_sets_13 ⟨Nat.le_of_ble_eq_true rfl, Nat.le_of_ble_eq_true rfl⟩) (fun r_84 f_85 Γ_87 H locs hw_83 hP hI hc_86 hcg_88 hS => ?_)
    have hD : va_D A (va_pl L f_85) := tp_D hL hAL
    have hfr := tp_fr2 hfr hc_86 (by decide)
    have hgr : ∀ κ : tk_K, κ.1 ∉ ([39, 49] : List Nat) → Γ_87 κ = Γ κ := tg_fr2 hgr hcg_88 (by decide)
    have hf_89 := (tp_un hc_86 hq (by decide)).trans hf_15
    have hg_90 : ∀ j : Nat, j < 22 → (g_16 j).toInt = Γ_87 (49, 22, 0) j := fun j hj => by rw [hcg_88 _ (by decide)]; exact hg_17 j hj
    obtain ⟨rfl, hw_83⟩ := hw_83
    have hw_83 : Γ_87 (39, 0, 0) 0 = Γ (39, 0, 0) 0 ∧ Γ_87 (39, 0, 0) 1 = Γ (39, 0, 0) 1 ∧ Γ_87 (39, 0, 0) 3 = Γ (39, 0, 0) 3 ∧ Γ_87 (39, 0, 0) 4 = Γ (39, 0, 0) 4 ∧ Γ_87 (39, 0, 0) 5 = Γ (39, 0, 0) 5 ∧ Γ_87 (39, 0, 0) 6 = Γ (39, 0, 0) 6 ∧ Γ_87 (39, 0, 0) 7 = Γ (39, 0, 0) 7 ∧ Γ_87 (39, 0, 0) 8 = Γ (39, 0, 0) 8 := hw_83
    have hpo9 : tl_J (0 : Int32) ((p0.toInt ≤ Γ_87 (39, 0, 0) 3 ∧ Γ_87 (39, 0, 0) 3 ≤ p1.toInt) ∧ Γ (39, 0, 0) 1 + 1 ≤ Γ_87 (39, 0, 0) 1 ∧ Γ_87 (49, 22, 0) = tgu (Γ (49, 22, 0)) t0.toNat (Γ_87 (39, 0, 0) 3)) ∧ Γ_87 (39, 0, 0) 0 = Γ (39, 0, 0) 0 ∧ Γ_87 (39, 0, 0) 4 = Γ (39, 0, 0) 4 ∧ Γ_87 (39, 0, 0) 5 = Γ (39, 0, 0) 5 ∧ Γ_87 (39, 0, 0) 6 = Γ (39, 0, 0) 6 ∧ Γ_87 (39, 0, 0) 7 = Γ (39, 0, 0) 7 ∧ Γ_87 (39, 0, 0) 8 = Γ (39, 0, 0) 8 ∧ Γ (39, 0, 0) 1 ≤ Γ_87 (39, 0, 0) 1 ∧ Γ_87 (39, 0, 0) 1 ≤ T0 := ⟨(Or.inr rfl), ⟨(by omega), (by omega), (by omega), (by omega), (by omega), (by omega), (by omega), (by omega)⟩⟩
    exact W.zret (ty := .boolean) (v := 0) hx hb hr rfl (fun t ht hW => ⟨⟨_, (f_85, Γ_87), rfl, hpo9, by rw [ht]; exact hP, hI, hfr, hgr⟩, hS.F ht⟩) hS.2.2 dX12_sets_16
set_option maxHeartbeats 4000000 in
set_option maxRecDepth 100000 in
theorem r_sets_MWIDE (l : Launch) (D : va_G) (cy : Nat → ClassId) (sz : Nat) (L : List Nat) (K : Nat → tk_K) (Γ : tk_G) (f : Nat → va_E) (o : Nat) (q : Nat) (p0 : Int32) (p1 : Int32) (p2 : Int32) (τ : Nat → Int) (T0 : Int) (t0 : Int) (ho : tp_r L K 39 (0) 0 o) (hq : tp_r L K 51 (22) 0 q) (ht : Γ (41, 400, 0) = τ) (hT : Γ (39, 0, 0) 0 = T0) (hb0 : 0 ≤ Γ (39, 0, 0) 1 ∧ Γ (39, 0, 0) 1 ≤ T0 ∧ T0 ≤ 400) (h4 : Γ (39, 0, 0) 4 = t0 ∧ 0 ≤ t0 ∧ t0 ≤ 21) : Met l yX12_sets (tl_w yX12_sets cX12_sets 5 (some .boolean)) ({ frames := 2, cells := 0, slots := 0, locals := 49 }) (va_Pc [.ref o, .ref q, .int p0, .int p1, .int p2] (tp_P D cy L K Γ f sz)) (va_Qi (fun (r : Int32) (u : (Nat → va_E) × tk_G) => tl_J r ((p0.toInt ≤ u.2 (39, 0, 0) 3 ∧ u.2 (39, 0, 0) 3 ≤ p1.toInt) ∧ Γ (39, 0, 0) 1 + 1 ≤ u.2 (39, 0, 0) 1 ∧ u.2 (51, 22, 0) = tgu (Γ (51, 22, 0)) t0.toNat (u.2 (39, 0, 0) 3)) ∧ u.2 (39, 0, 0) 0 = Γ (39, 0, 0) 0 ∧ u.2 (39, 0, 0) 4 = Γ (39, 0, 0) 4 ∧ u.2 (39, 0, 0) 5 = Γ (39, 0, 0) 5 ∧ u.2 (39, 0, 0) 6 = Γ (39, 0, 0) 6 ∧ u.2 (39, 0, 0) 7 = Γ (39, 0, 0) 7 ∧ u.2 (39, 0, 0) 8 = Γ (39, 0, 0) 8 ∧ Γ (39, 0, 0) 1 ≤ u.2 (39, 0, 0) 1 ∧ u.2 (39, 0, 0) 1 ≤ T0) (tp_BG D cy L K Γ f [39, 51]) (tp_A L sz)) 0 0 (tp_A L sz) := by
  refine Met.ofW (cc := cX12_sets) (maxL := 5) (ret := (some .boolean)) (by decide) rfl ?_
  intro p e s m args below meth c s₁ B hml hv
  obtain ⟨rfl, hsz, hP, hK, hL, hI, hN, hU⟩ := hv
  have hx := B.exec
  have hb := B.bytes
  have hr := B.returns
  have hta := tl_hta (atoms_spec (ws := tl_w yX12_sets cX12_sets 5 (some .boolean)) B.pre)
  have hown : s.vm.findClass RX12 = some m.cls := findClass_of_methodNamed B.named
  have hlocks := B.notSynchronized
  subst hsz
  have hI0 := hI
  generalize hAe : tp_A L s.heap.size = A
  have hA : ∀ q : Nat, s.heap.size ≤ q → A q := fun q h => by rw [← hAe]; exact Or.inr h
  have hAL : ∀ q ∈ L, A q := fun q h => by rw [← hAe]; exact Or.inl h
  have hAf : ∀ (H : Heap), s.heap.size ≤ H.size → ∀ q, tp_A L H.size q → A q := fun H h q hq => hq.elim (hAL q) (fun h2 => hA q (Nat.le_trans h h2))
  have hS : va_S A s.heap s.heap [] := va_S.rf
  have hD : va_D A (va_pl L f) := tp_D hL hAL
  have hfr : ∀ b, (K b).1 ∉ ([39, 51] : List Nat) → f b = f b := fun _ _ => rfl
  have hgr : ∀ κ : tk_K, κ.1 ∉ ([39, 51] : List Nat) → Γ κ = Γ κ := fun _ _ => rfl
  have hl := lv_entry ([.ref o, .ref q, .int p0, .int p1, .int p2]) (n := 5) (Nat.le_of_ble_eq_true rfl)
  rw [lg_entry_eq]
  generalize (lg_sl ([.ref o, .ref q, .int p0, .int p1, .int p2]) ++ List.replicate (5 - (lg_sl ([.ref o, .ref q, .int p0, .int p1, .int p2])).length) Slot.unset).toArray = ls at hl ⊢
  have hl : lv_has ls 5 [(0, .ref o), (1, .ref q), (2, .int p0), (3, .int p1), (4, .int p2)] := hl
  refine lv_aload_n hx hb dX12_sets_0 rfl (lv_at hl 1 rfl) ?_
  refine lv_aload_n hx hb dX12_sets_1 rfl (lv_at hl 0 rfl) ?_
  obtain ⟨r_2, v_3, q_4, hf_1, hr_5, hv_6⟩ := (show tp_o_M L K 0 0 (Γ (39, 0, 0)) (f o) from hI.at ho)
  have hx_7 : (v_3 0).toInt = Γ (39, 0, 0) 0 := hv_6 0 (by decide)
  have hx_8 : (v_3 1).toInt = Γ (39, 0, 0) 1 := hv_6 1 (by decide)
  have hx_9 : (v_3 3).toInt = Γ (39, 0, 0) 3 := hv_6 3 (by decide)
  have hx_10 : (v_3 4).toInt = Γ (39, 0, 0) 4 := hv_6 4 (by decide)
  have hx_11 : (v_3 5).toInt = Γ (39, 0, 0) 5 := hv_6 5 (by decide)
  have hx_12 : (v_3 6).toInt = Γ (39, 0, 0) 6 := hv_6 6 (by decide)
  have hx_13 : (v_3 7).toInt = Γ (39, 0, 0) 7 := hv_6 7 (by decide)
  have hx_14 : (v_3 8).toInt = Γ (39, 0, 0) 8 := hv_6 8 (by decide)
  refine tp_get (cy := cy) (ci := 12) (v := .int (v_3 4)) (C := RX12) (T := TX12) (N := 49) hx hb hta inlX12 hown hK hP ho.1 hf_1 rfl 20 (by decide) (hta _ wk_537) (fun _ h9 => h9) rfl dX12_sets_2 ?_
  obtain ⟨g_16, hf_15, hg_17⟩ := (show tp_gi cy (22) (Γ (51, 22, 0)) (f q) from hI.at hq)
  have hn_18 : vp_in (v_3 4) (22) := tl_in (by omega) (by omega)
  refine tp_iald (cy := cy) hx hb hK hP hq.1 hf_15 hn_18 dX12_sets_5 ?_
  refine lv_topi (fun z_19 ez_19 => ?_)
  have iz_19 : z_19.toInt = Γ (51, 22, 0) (v_3 4).toInt.toNat := by rw [ez_19]; exact hg_17 _ (tp_pin hn_18)
  have jz_19 : z_19.toInt = Γ (51, 22, 0) t0.toNat := by rw [show t0 = (v_3 4).toInt from by omega]; exact iz_19
  refine lv_if_lt (tgt := 17) hx hb dX12_sets_6 (by decide) (fun c_20 => ?_) (fun c_20 => ?_)
  · have c_20 : z_19.toInt < (0 : Int) := tl_lt c_20
    refine lv_aload_n hx hb dX12_sets_17 rfl (lv_at hl 0 rfl) ?_
    refine tq_cvR hS (hAf _ hS.1) (tq_rV (As := []) (rest := []) ⟨hx, hb, hml, hown, hta⟩ (tp_P.pre hK hN hL hU hI hP) (tp_recv hK hP ho.1 hf_1 rfl) lk_X12_178 (r_X12_passWord l D cy s.heap.size L K Γ f o τ T0 ho ht (by first | omega | (simp only [Int32.toInt_toInt64]; omega) | decide | assumption) (by first | omega | (simp only [Int32.toInt_toInt64]; omega) | decide | assumption)) rfl rfl ⟨Nat.le_of_ble_eq_true rfl, Nat.le_of_ble_eq_true rfl⟩ rfl hl.1 rfl (Nat.le_of_ble_eq_true rfl) dX12_sets_18 ⟨Nat.le_of_ble_eq_true rfl, Nat.le_of_ble_eq_true rfl⟩) (fun f_23 Γ_25 H locs hw_21 hP hI hc_24 hcg_26 hS => ?_)
    have hD : va_D A (va_pl L f_23) := tp_D hL hAL
    have hfr := tp_fr2 hfr hc_24 (by decide)
    have hgr : ∀ κ : tk_K, κ.1 ∉ ([39, 51] : List Nat) → Γ_25 κ = Γ κ := tg_fr2 hgr hcg_26 (by decide)
    have hf_27 := (tp_un hc_24 hq (by decide)).trans hf_15
    have hg_28 : ∀ j : Nat, j < 22 → (g_16 j).toInt = Γ_25 (51, 22, 0) j := fun j hj => by rw [hcg_26 _ (by decide)]; exact hg_17 j hj
    have hw_21 : Γ_25 (39, 0, 0) 0 = Γ (39, 0, 0) 0 ∧ Γ_25 (39, 0, 0) 3 = Γ (39, 0, 0) 3 ∧ Γ_25 (39, 0, 0) 4 = Γ (39, 0, 0) 4 ∧ Γ_25 (39, 0, 0) 5 = Γ (39, 0, 0) 5 ∧ Γ_25 (39, 0, 0) 6 = Γ (39, 0, 0) 6 ∧ Γ_25 (39, 0, 0) 7 = Γ (39, 0, 0) 7 ∧ Γ_25 (39, 0, 0) 8 = Γ (39, 0, 0) 8 ∧ Γ (39, 0, 0) 1 ≤ Γ_25 (39, 0, 0) 1 ∧ Γ_25 (39, 0, 0) 1 ≤ T0 ∧ (tr_L τ T0 (Γ (39, 0, 0) 1) → Γ (39, 0, 0) 1 + 1 ≤ Γ_25 (39, 0, 0) 1) := hw_21
    refine lv_aload_n hx hb dX12_sets_21 rfl (lv_at hl 0 rfl) ?_
    refine lv_iload_n hx hb dX12_sets_22 rfl (lv_at hl 2 rfl) ?_
    refine lv_iload_n hx hb dX12_sets_23 rfl (lv_at hl 3 rfl) ?_
    obtain ⟨r_30, v_31, q_32, hf_29, hr_33, hv_34⟩ := (show tp_o_M L K 0 0 (Γ_25 (39, 0, 0)) (f_23 o) from hI.at ho)
    have hx_35 : (v_31 0).toInt = Γ_25 (39, 0, 0) 0 := hv_34 0 (by decide)
    have hx_36 : (v_31 1).toInt = Γ_25 (39, 0, 0) 1 := hv_34 1 (by decide)
    have hx_37 : (v_31 3).toInt = Γ_25 (39, 0, 0) 3 := hv_34 3 (by decide)
    have hx_38 : (v_31 4).toInt = Γ_25 (39, 0, 0) 4 := hv_34 4 (by decide)
    have hx_39 : (v_31 5).toInt = Γ_25 (39, 0, 0) 5 := hv_34 5 (by decide)
    have hx_40 : (v_31 6).toInt = Γ_25 (39, 0, 0) 6 := hv_34 6 (by decide)
    have hx_41 : (v_31 7).toInt = Γ_25 (39, 0, 0) 7 := hv_34 7 (by decide)
    have hx_42 : (v_31 8).toInt = Γ_25 (39, 0, 0) 8 := hv_34 8 (by decide)
    refine tq_ciR hS (hAf _ hS.1) (tq_rV (As := [.int p0, .int p1]) (rest := []) ⟨hx, hb, hml, hown, hta⟩ (tp_P.pre hK hN hL hU hI hP) (tp_recv hK hP ho.1 hf_29 rfl) lk_X12_233 (r_X12_numberHere l D cy H.size L K Γ_25 f_23 o p0 p1 τ T0 ho ((hgr _ (by decide)).trans ht) (by first | omega | (simp only [Int32.toInt_toInt64]; omega) | decide | assumption) (by first | omega | (simp only [Int32.toInt_toInt64]; omega) | decide | assumption)) rfl rfl ⟨Nat.le_of_ble_eq_true rfl, Nat.le_of_ble_eq_true rfl⟩ rfl hl.1 rfl (Nat.le_of_ble_eq_true rfl) dX12_sets_24 ⟨Nat.le_of_ble_eq_true rfl, Nat.le_of_ble_eq_true rfl⟩) (fun r_44 f_45 Γ_47 H locs hw_43 hP hI hc_46 hcg_48 hS => ?_)
    have hD : va_D A (va_pl L f_45) := tp_D hL hAL
    have hfr := tp_fr2 hfr hc_46 (by decide)
    have hgr : ∀ κ : tk_K, κ.1 ∉ ([39, 51] : List Nat) → Γ_47 κ = Γ κ := tg_fr2 hgr hcg_48 (by decide)
    have hf_49 := (tp_un hc_46 hq (by decide)).trans hf_27
    have hg_50 : ∀ j : Nat, j < 22 → (g_16 j).toInt = Γ_47 (51, 22, 0) j := fun j hj => by rw [hcg_48 _ (by decide)]; exact hg_28 j hj
    obtain ⟨hE_51, hw_43⟩ := hw_43
    have hE_51 : tl_J r_44 (p0.toInt ≤ Γ_47 (39, 0, 0) 3 ∧ Γ_47 (39, 0, 0) 3 ≤ p1.toInt ∧ Γ_25 (39, 0, 0) 1 + 1 ≤ Γ_47 (39, 0, 0) 1) := hE_51
    have hw_43 : Γ_47 (39, 0, 0) 0 = Γ_25 (39, 0, 0) 0 ∧ Γ_47 (39, 0, 0) 4 = Γ_25 (39, 0, 0) 4 ∧ Γ_47 (39, 0, 0) 5 = Γ_25 (39, 0, 0) 5 ∧ Γ_47 (39, 0, 0) 6 = Γ_25 (39, 0, 0) 6 ∧ Γ_47 (39, 0, 0) 7 = Γ_25 (39, 0, 0) 7 ∧ Γ_47 (39, 0, 0) 8 = Γ_25 (39, 0, 0) 8 ∧ Γ_25 (39, 0, 0) 1 ≤ Γ_47 (39, 0, 0) 1 ∧ Γ_47 (39, 0, 0) 1 ≤ T0 := hw_43
    refine lv_if_ne (tgt := 32) hx hb dX12_sets_27 (by decide) (fun c_52 => ?_) (fun c_52 => ?_)
    · have c_52 := hE_51.t c_52
      refine lv_aload_n hx hb dX12_sets_32 rfl (lv_at hl 1 rfl) ?_
      refine lv_aload_n hx hb dX12_sets_33 rfl (lv_at hl 0 rfl) ?_
      obtain ⟨r_54, v_55, q_56, hf_53, hr_57, hv_58⟩ := (show tp_o_M L K 0 0 (Γ_47 (39, 0, 0)) (f_45 o) from hI.at ho)
      have hx_59 : (v_55 0).toInt = Γ_47 (39, 0, 0) 0 := hv_58 0 (by decide)
      have hx_60 : (v_55 1).toInt = Γ_47 (39, 0, 0) 1 := hv_58 1 (by decide)
      have hx_61 : (v_55 3).toInt = Γ_47 (39, 0, 0) 3 := hv_58 3 (by decide)
      have hx_62 : (v_55 4).toInt = Γ_47 (39, 0, 0) 4 := hv_58 4 (by decide)
      have hx_63 : (v_55 5).toInt = Γ_47 (39, 0, 0) 5 := hv_58 5 (by decide)
      have hx_64 : (v_55 6).toInt = Γ_47 (39, 0, 0) 6 := hv_58 6 (by decide)
      have hx_65 : (v_55 7).toInt = Γ_47 (39, 0, 0) 7 := hv_58 7 (by decide)
      have hx_66 : (v_55 8).toInt = Γ_47 (39, 0, 0) 8 := hv_58 8 (by decide)
      refine tp_get (cy := cy) (ci := 12) (v := .int (v_55 4)) (C := RX12) (T := TX12) (N := 49) hx hb hta inlX12 hown hK hP ho.1 hf_53 rfl 20 (by decide) (hta _ wk_537) (fun _ h9 => h9) rfl dX12_sets_34 ?_
      refine lv_aload_n hx hb dX12_sets_37 rfl (lv_at hl 0 rfl) ?_
      refine tp_get (cy := cy) (ci := 12) (v := .int (v_55 3)) (C := RX12) (T := TX12) (N := 49) hx hb hta inlX12 hown hK hP ho.1 hf_53 rfl 19 (by decide) (hta _ wk_585) (fun _ h9 => h9) rfl dX12_sets_38 ?_
      have hWK : Γ_47 (51, 22, 0) = Γ (51, 22, 0) := by first | rfl | exact ((hcg_48 _ (by decide)).trans (hcg_26 _ (by decide)))
      have hn_67 : vp_in (v_55 4) (22) := tl_in (by omega) (by omega)
      have hj_68 : (v_55 4).toNatClampNeg = t0.toNat := by show (v_55 4).toInt.toNat = _; omega
      have hv_69 : (v_55 3).toInt = Γ_47 (39, 0, 0) 3 := by omega
      obtain ⟨Γ_70, eΓ_70⟩ : ∃ y : tk_G, y = tg Γ_47 (51, 22, 0) t0.toNat (Γ_47 (39, 0, 0) 3) := ⟨_, rfl⟩
      have hI9 : tp_I cy L K Γ_70 (va_up f_45 q (.inl (cy 0, 22, .inl (upd g_16 (v_55 4).toNatClampNeg (v_55 3))))) := by have q9 : tg Γ_47 (51, 22, 0) t0.toNat (Γ_47 (39, 0, 0) 3) = tg Γ_47 (51, 22, 0) (v_55 4).toNatClampNeg (v_55 3).toInt := (by rw [hj_68, hv_69]); rw [eΓ_70, q9]; exact hI.setg hU rfl hq (show tp_gi cy (22) (tgu (Γ_47 (51, 22, 0)) _ _) _ from ⟨_, rfl, tp_gi_upd hg_50⟩)
      have hfr9 : ∀ b, (K b).1 ∉ ([39, 51] : List Nat) → va_up f_45 q (.inl (cy 0, 22, .inl (upd g_16 (v_55 4).toNatClampNeg (v_55 3)))) b = f b := tp_fr hfr hq (by decide)
      refine tp_iast (cy := cy) hx hb hK hP hD hS hq.1 hf_49 hn_67 dX12_sets_41 (fun H locs hP hD hS => ?_)
      have hP : va_P D vwCl (va_pl L (va_up f_45 q (.inl (cy 0, 22, .inl (upd g_16 (v_55 4).toNatClampNeg (v_55 3)))))) H := hP
      generalize hfe : va_up f_45 q (.inl (cy 0, 22, .inl (upd g_16 (v_55 4).toNatClampNeg (v_55 3)))) = f_71 at hP hI9 hfr9
      have hD : va_D A (va_pl L f_71) := tp_D hL hAL
      have hf_72 : f_71 q = .inl (cy 0, 22, .inl (upd g_16 (v_55 4).toNatClampNeg (v_55 3))) := by rw [← hfe]; exact va_up_self _ _ _
      have hf_73 := (show f_71 o = _ from by rw [← hfe, va_up_ne _ _ (tp_ne ho hq (by decide))]).trans hf_53
      clear hfe
      have hI := hI9
      have hfr := hfr9
      clear hI9 hfr9
      have wsΓ_70 : Γ_70 (51, 22, 0) t0.toNat = Γ_47 (39, 0, 0) 3 := by rw [eΓ_70]; exact tg_s
      have hgr : ∀ κ : tk_K, κ.1 ∉ ([39, 51] : List Nat) → Γ_70 κ = Γ κ := tg_fr hgr eΓ_70 (by decide)
      have hv_74 : ∀ i : Nat, i < 16 → (v_55 i).toInt = Γ_70 (39, 0, 0) i := fun i hi => by rw [eΓ_70, tg_r (by decide)]; exact hv_58 i hi
      have hx_75 : (v_55 0).toInt = Γ_70 (39, 0, 0) 0 := hv_74 0 (by decide)
      have hx_76 : (v_55 1).toInt = Γ_70 (39, 0, 0) 1 := hv_74 1 (by decide)
      have hx_77 : (v_55 3).toInt = Γ_70 (39, 0, 0) 3 := hv_74 3 (by decide)
      have hx_78 : (v_55 4).toInt = Γ_70 (39, 0, 0) 4 := hv_74 4 (by decide)
      have hx_79 : (v_55 5).toInt = Γ_70 (39, 0, 0) 5 := hv_74 5 (by decide)
      have hx_80 : (v_55 6).toInt = Γ_70 (39, 0, 0) 6 := hv_74 6 (by decide)
      have hx_81 : (v_55 7).toInt = Γ_70 (39, 0, 0) 7 := hv_74 7 (by decide)
      have hx_82 : (v_55 8).toInt = Γ_70 (39, 0, 0) 8 := hv_74 8 (by decide)
      refine lv_iconst (v := 1) hx hb dX12_sets_42 (by decide) ?_
      have hpo9 : tl_J (1 : Int32) ((p0.toInt ≤ Γ_70 (39, 0, 0) 3 ∧ Γ_70 (39, 0, 0) 3 ≤ p1.toInt) ∧ Γ (39, 0, 0) 1 + 1 ≤ Γ_70 (39, 0, 0) 1 ∧ Γ_70 (51, 22, 0) = tgu (Γ (51, 22, 0)) t0.toNat (Γ_70 (39, 0, 0) 3)) ∧ Γ_70 (39, 0, 0) 0 = Γ (39, 0, 0) 0 ∧ Γ_70 (39, 0, 0) 4 = Γ (39, 0, 0) 4 ∧ Γ_70 (39, 0, 0) 5 = Γ (39, 0, 0) 5 ∧ Γ_70 (39, 0, 0) 6 = Γ (39, 0, 0) 6 ∧ Γ_70 (39, 0, 0) 7 = Γ (39, 0, 0) 7 ∧ Γ_70 (39, 0, 0) 8 = Γ (39, 0, 0) 8 ∧ Γ (39, 0, 0) 1 ≤ Γ_70 (39, 0, 0) 1 ∧ Γ_70 (39, 0, 0) 1 ≤ T0 := ⟨(Or.inl ⟨rfl, ⟨(by omega), (by omega), (by rw [show Γ_70 (39, 0, 0) 3 = Γ_47 (39, 0, 0) 3 from by omega, eΓ_70, tg_f, hWK])⟩⟩), ⟨(by omega), (by omega), (by omega), (by omega), (by omega), (by omega), (by omega), (by omega)⟩⟩
      exact W.zret (ty := .boolean) (v := 1) hx hb hr rfl (fun t ht hW => ⟨⟨_, (f_71, Γ_70), rfl, hpo9, by rw [ht]; exact hP, hI, hfr, hgr⟩, hS.F ht⟩) hS.2.2 dX12_sets_43
    · have c_52 := c_52
      refine lv_iconst (v := 0) hx hb dX12_sets_30 (by decide) ?_
      have hpo9 : tl_J (0 : Int32) ((p0.toInt ≤ Γ_47 (39, 0, 0) 3 ∧ Γ_47 (39, 0, 0) 3 ≤ p1.toInt) ∧ Γ (39, 0, 0) 1 + 1 ≤ Γ_47 (39, 0, 0) 1 ∧ Γ_47 (51, 22, 0) = tgu (Γ (51, 22, 0)) t0.toNat (Γ_47 (39, 0, 0) 3)) ∧ Γ_47 (39, 0, 0) 0 = Γ (39, 0, 0) 0 ∧ Γ_47 (39, 0, 0) 4 = Γ (39, 0, 0) 4 ∧ Γ_47 (39, 0, 0) 5 = Γ (39, 0, 0) 5 ∧ Γ_47 (39, 0, 0) 6 = Γ (39, 0, 0) 6 ∧ Γ_47 (39, 0, 0) 7 = Γ (39, 0, 0) 7 ∧ Γ_47 (39, 0, 0) 8 = Γ (39, 0, 0) 8 ∧ Γ (39, 0, 0) 1 ≤ Γ_47 (39, 0, 0) 1 ∧ Γ_47 (39, 0, 0) 1 ≤ T0 := ⟨(Or.inr rfl), ⟨(by omega), (by omega), (by omega), (by omega), (by omega), (by omega), (by omega), (by omega)⟩⟩
      exact W.zret (ty := .boolean) (v := 0) hx hb hr rfl (fun t ht hW => ⟨⟨_, (f_45, Γ_47), rfl, hpo9, by rw [ht]; exact hP, hI, hfr, hgr⟩, hS.F ht⟩) hS.2.2 dX12_sets_31
  · have c_20 : (0 : Int) ≤ z_19.toInt := tl_nlt c_20
    refine lv_aload_n hx hb dX12_sets_9 rfl (lv_at hl 0 rfl) ?_
    refine lv_iconst (v := 4) hx hb dX12_sets_10 (by decide) ?_
    refine lv_iload hx hb dX12_sets_11 (lv_at hl 4 rfl) ?_
    refine tq_ciR hS (hAf _ hS.1) (tq_rV (As := [.int 4, .int p2]) (rest := []) ⟨hx, hb, hml, hown, hta⟩ (tp_P.pre hK hN hL hU hI hP) (tp_recv hK hP ho.1 hf_1 rfl) lk_X12_184 (r_X12_fails l D cy s.heap.size L K Γ f o 4 p2 ho) rfl rfl ⟨Nat.le_of_ble_eq_true rfl, Nat.le_of_ble_eq_true rfl⟩ rfl hl.1 rfl (Nat.le_of_ble_eq_true rfl) dX12_sets_13 ⟨Nat.le_of_ble_eq_true rfl, Nat.le_of_ble_eq_true rfl⟩) (fun r_84 f_85 Γ_87 H locs hw_83 hP hI hc_86 hcg_88 hS => ?_)
    have hD : va_D A (va_pl L f_85) := tp_D hL hAL
    have hfr := tp_fr2 hfr hc_86 (by decide)
    have hgr : ∀ κ : tk_K, κ.1 ∉ ([39, 51] : List Nat) → Γ_87 κ = Γ κ := tg_fr2 hgr hcg_88 (by decide)
    have hf_89 := (tp_un hc_86 hq (by decide)).trans hf_15
    have hg_90 : ∀ j : Nat, j < 22 → (g_16 j).toInt = Γ_87 (51, 22, 0) j := fun j hj => by rw [hcg_88 _ (by decide)]; exact hg_17 j hj
    obtain ⟨rfl, hw_83⟩ := hw_83
    have hw_83 : Γ_87 (39, 0, 0) 0 = Γ (39, 0, 0) 0 ∧ Γ_87 (39, 0, 0) 1 = Γ (39, 0, 0) 1 ∧ Γ_87 (39, 0, 0) 3 = Γ (39, 0, 0) 3 ∧ Γ_87 (39, 0, 0) 4 = Γ (39, 0, 0) 4 ∧ Γ_87 (39, 0, 0) 5 = Γ (39, 0, 0) 5 ∧ Γ_87 (39, 0, 0) 6 = Γ (39, 0, 0) 6 ∧ Γ_87 (39, 0, 0) 7 = Γ (39, 0, 0) 7 ∧ Γ_87 (39, 0, 0) 8 = Γ (39, 0, 0) 8 := hw_83
    have hpo9 : tl_J (0 : Int32) ((p0.toInt ≤ Γ_87 (39, 0, 0) 3 ∧ Γ_87 (39, 0, 0) 3 ≤ p1.toInt) ∧ Γ (39, 0, 0) 1 + 1 ≤ Γ_87 (39, 0, 0) 1 ∧ Γ_87 (51, 22, 0) = tgu (Γ (51, 22, 0)) t0.toNat (Γ_87 (39, 0, 0) 3)) ∧ Γ_87 (39, 0, 0) 0 = Γ (39, 0, 0) 0 ∧ Γ_87 (39, 0, 0) 4 = Γ (39, 0, 0) 4 ∧ Γ_87 (39, 0, 0) 5 = Γ (39, 0, 0) 5 ∧ Γ_87 (39, 0, 0) 6 = Γ (39, 0, 0) 6 ∧ Γ_87 (39, 0, 0) 7 = Γ (39, 0, 0) 7 ∧ Γ_87 (39, 0, 0) 8 = Γ (39, 0, 0) 8 ∧ Γ (39, 0, 0) 1 ≤ Γ_87 (39, 0, 0) 1 ∧ Γ_87 (39, 0, 0) 1 ≤ T0 := ⟨(Or.inr rfl), ⟨(by omega), (by omega), (by omega), (by omega), (by omega), (by omega), (by omega), (by omega)⟩⟩
    exact W.zret (ty := .boolean) (v := 0) hx hb hr rfl (fun t ht hW => ⟨⟨_, (f_85, Γ_87), rfl, hpo9, by rw [ht]; exact hP, hI, hfr, hgr⟩, hS.F ht⟩) hS.2.2 dX12_sets_16

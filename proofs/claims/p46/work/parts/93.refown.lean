theorem dX12_scoreNow_0 : decode cX12_scoreNow 0 = .ok (.aload_n 0, 1) := by decide +kernel
theorem dX12_scoreNow_1 : decode cX12_scoreNow 1 = .ok (.iload_n 1, 1) := by decide +kernel
theorem dX12_scoreNow_2 : decode cX12_scoreNow 2 = .ok (.iload_n 2, 1) := by decide +kernel
theorem dX12_scoreNow_3 : decode cX12_scoreNow 3 = .ok (.iload_n 3, 1) := by decide +kernel
theorem dX12_scoreNow_4 : decode cX12_scoreNow 4 = .ok (.iload 4, 2) := by decide +kernel
theorem dX12_scoreNow_6 : decode cX12_scoreNow 6 = .ok (.invokevirtual 418, 3) := by decide +kernel
theorem dX12_scoreNow_9 : decode cX12_scoreNow 9 = .ok (.aload_n 0, 1) := by decide +kernel
theorem dX12_scoreNow_10 : decode cX12_scoreNow 10 = .ok (.aload_n 0, 1) := by decide +kernel
theorem dX12_scoreNow_11 : decode cX12_scoreNow 11 = .ok (.iload_n 1, 1) := by decide +kernel
theorem dX12_scoreNow_12 : decode cX12_scoreNow 12 = .ok (.iload 5, 2) := by decide +kernel
theorem dX12_scoreNow_14 : decode cX12_scoreNow 14 = .ok (.invokevirtual 422, 3) := by decide +kernel
theorem dX12_scoreNow_17 : decode cX12_scoreNow 17 = .ok (.putfield 425, 3) := by decide +kernel
theorem dX12_scoreNow_20 : decode cX12_scoreNow 20 = .ok (.aload_n 0, 1) := by decide +kernel
theorem dX12_scoreNow_21 : decode cX12_scoreNow 21 = .ok (.getfield 425, 3) := by decide +kernel
theorem dX12_scoreNow_24 : decode cX12_scoreNow 24 = .ok (.ifCond .ne 7, 3) := by decide +kernel
theorem dX12_scoreNow_27 : decode cX12_scoreNow 27 = .ok (.ldc2_w 429, 3) := by decide +kernel
theorem dX12_scoreNow_30 : decode cX12_scoreNow 30 = .ok (.lreturn, 1) := by decide +kernel
theorem dX12_scoreNow_31 : decode cX12_scoreNow 31 = .ok (.aload_n 0, 1) := by decide +kernel
theorem dX12_scoreNow_32 : decode cX12_scoreNow 32 = .ok (.invokevirtual 431, 3) := by decide +kernel
theorem dX12_scoreNow_35 : decode cX12_scoreNow 35 = .ok (.lstore 6, 2) := by decide +kernel
theorem dX12_scoreNow_37 : decode cX12_scoreNow 37 = .ok (.aload_n 0, 1) := by decide +kernel
theorem dX12_scoreNow_38 : decode cX12_scoreNow 38 = .ok (.aload_n 0, 1) := by decide +kernel
theorem dX12_scoreNow_39 : decode cX12_scoreNow 39 = .ok (.getfield 411, 3) := by decide +kernel
theorem dX12_scoreNow_42 : decode cX12_scoreNow 42 = .ok (.ifCond .le 7, 3) := by decide +kernel
theorem dX12_scoreNow_45 : decode cX12_scoreNow 45 = .ok (.iconst 1, 1) := by decide +kernel
theorem dX12_scoreNow_46 : decode cX12_scoreNow 46 = .ok (.goto 4, 3) := by decide +kernel
theorem dX12_scoreNow_49 : decode cX12_scoreNow 49 = .ok (.iconst 0, 1) := by decide +kernel
theorem dX12_scoreNow_50 : decode cX12_scoreNow 50 = .ok (.putfield 425, 3) := by decide +kernel
theorem dX12_scoreNow_53 : decode cX12_scoreNow 53 = .ok (.aload_n 0, 1) := by decide +kernel
theorem dX12_scoreNow_54 : decode cX12_scoreNow 54 = .ok (.getfield 425, 3) := by decide +kernel
theorem dX12_scoreNow_57 : decode cX12_scoreNow 57 = .ok (.ifCond .eq 19, 3) := by decide +kernel
theorem dX12_scoreNow_60 : decode cX12_scoreNow 60 = .ok (.ldc2_w 148, 3) := by decide +kernel
theorem dX12_scoreNow_63 : decode cX12_scoreNow 63 = .ok (.lload 6, 2) := by decide +kernel
theorem dX12_scoreNow_65 : decode cX12_scoreNow 65 = .ok (.lmul, 1) := by decide +kernel
theorem dX12_scoreNow_66 : decode cX12_scoreNow 66 = .ok (.aload_n 0, 1) := by decide +kernel
theorem dX12_scoreNow_67 : decode cX12_scoreNow 67 = .ok (.invokevirtual 434, 3) := by decide +kernel
theorem dX12_scoreNow_70 : decode cX12_scoreNow 70 = .ok (.invokestatic 401, 3) := by decide +kernel
theorem dX12_scoreNow_73 : decode cX12_scoreNow 73 = .ok (.goto 6, 3) := by decide +kernel
theorem dX12_scoreNow_76 : decode cX12_scoreNow 76 = .ok (.ldc2_w 429, 3) := by decide +kernel
theorem dX12_scoreNow_79 : decode cX12_scoreNow 79 = .ok (.lreturn, 1) := by decide +kernel
theorem wk_326 : Cond.constantLong RX12 148 (1000) ∈ tl_L := List.mem_filter.mpr ⟨lw_m7 (i := 28) rfl, rfl⟩
theorem wk_924 : Cond.fieldLink RX12 425 "ThinLineModel" "isDeep" "Z" ∈ tl_L := List.mem_filter.mpr ⟨lw_m6 (i := 105) rfl, rfl⟩
theorem wk_925 : Cond.constantLong RX12 429 (-1000000000) ∈ tl_L := List.mem_filter.mpr ⟨lw_m8 (i := 46) rfl, rfl⟩
theorem wk_927 : Cond.methodLink RX12 418 yX12_uses ∈ tl_L := List.mem_filter.mpr ⟨lw_m8 (i := 30) rfl, rfl⟩
theorem wk_928 : Cond.instanceMethod yX12_uses ∈ tl_L := List.mem_filter.mpr ⟨lw_m8 (i := 32) rfl, rfl⟩
theorem wk_929 : Cond.selects RX12 yX12_uses yX12_uses ∈ tl_L := List.mem_filter.mpr ⟨lw_s10 (i := 7) (q := (yX12_uses, 49)) rfl, rfl⟩
theorem wk_930 : Cond.code yX12_uses cX12_uses 9 none ∈ tl_L := List.mem_filter.mpr ⟨lw_m8 (i := 33) rfl, rfl⟩
theorem wk_934 : Cond.methodLink RX12 422 yX12_bows ∈ tl_L := List.mem_filter.mpr ⟨lw_m8 (i := 34) rfl, rfl⟩
theorem wk_935 : Cond.instanceMethod yX12_bows ∈ tl_L := List.mem_filter.mpr ⟨lw_m8 (i := 36) rfl, rfl⟩
theorem wk_936 : Cond.selects RX12 yX12_bows yX12_bows ∈ tl_L := List.mem_filter.mpr ⟨lw_s10 (i := 8) (q := (yX12_bows, 49)) rfl, rfl⟩
theorem wk_937 : Cond.code yX12_bows cX12_bows 10 (some .boolean) ∈ tl_L := List.mem_filter.mpr ⟨lw_m8 (i := 37) rfl, rfl⟩
theorem wk_946 : Cond.methodLink RX12 431 yX12_deepNow ∈ tl_L := List.mem_filter.mpr ⟨lw_m8 (i := 47) rfl, rfl⟩
theorem wk_947 : Cond.instanceMethod yX12_deepNow ∈ tl_L := List.mem_filter.mpr ⟨lw_m8 (i := 49) rfl, rfl⟩
theorem wk_948 : Cond.selects RX12 yX12_deepNow yX12_deepNow ∈ tl_L := List.mem_filter.mpr ⟨lw_s10 (i := 10) (q := (yX12_deepNow, 49)) rfl, rfl⟩
theorem wk_949 : Cond.code yX12_deepNow cX12_deepNow 4 (some .long) ∈ tl_L := List.mem_filter.mpr ⟨lw_m8 (i := 50) rfl, rfl⟩
theorem wk_950 : Cond.methodLink RX12 434 yX12_noiseNow ∈ tl_L := List.mem_filter.mpr ⟨lw_m8 (i := 51) rfl, rfl⟩
theorem wk_951 : Cond.instanceMethod yX12_noiseNow ∈ tl_L := List.mem_filter.mpr ⟨lw_m8 (i := 53) rfl, rfl⟩
theorem wk_952 : Cond.selects RX12 yX12_noiseNow yX12_noiseNow ∈ tl_L := List.mem_filter.mpr ⟨lw_s10 (i := 11) (q := (yX12_noiseNow, 49)) rfl, rfl⟩
theorem wk_953 : Cond.code yX12_noiseNow cX12_noiseNow 5 (some .long) ∈ tl_L := List.mem_filter.mpr ⟨lw_m8 (i := 54) rfl, rfl⟩
theorem lk_X12_418 : tl_kV RX12 418 RX12 yX12_uses cX12_uses 9 none 4 := ⟨wk_930, wk_927, wk_928, wk_929, wk_5, ⟨by decide +kernel, by decide +kernel, by decide +kernel⟩⟩
theorem lk_X12_422 : tl_kV RX12 422 RX12 yX12_bows cX12_bows 10 (some .boolean) 2 := ⟨wk_937, wk_934, wk_935, wk_936, wk_5, ⟨by decide +kernel, by decide +kernel, by decide +kernel⟩⟩
theorem lk_X12_431 : tl_kV RX12 431 RX12 yX12_deepNow cX12_deepNow 4 (some .long) 0 := ⟨wk_949, wk_946, wk_947, wk_948, wk_5, ⟨by decide +kernel, by decide +kernel, by decide +kernel⟩⟩
theorem lk_X12_434 : tl_kV RX12 434 RX12 yX12_noiseNow cX12_noiseNow 5 (some .long) 0 := ⟨wk_953, wk_950, wk_951, wk_952, wk_5, ⟨by decide +kernel, by decide +kernel, by decide +kernel⟩⟩
theorem dX12_own_0 : decode cX12_own 0 = .ok (.bipush 6, 2) := by decide +kernel
theorem dX12_own_2 : decode cX12_own 2 = .ok (.iload_n 1, 1) := by decide +kernel
theorem dX12_own_3 : decode cX12_own 3 = .ok (.iadd, 1) := by decide +kernel
theorem dX12_own_4 : decode cX12_own 4 = .ok (.istore_n 3, 1) := by decide +kernel
theorem dX12_own_5 : decode cX12_own 5 = .ok (.aload_n 0, 1) := by decide +kernel
theorem dX12_own_6 : decode cX12_own 6 = .ok (.iload_n 1, 1) := by decide +kernel
theorem dX12_own_7 : decode cX12_own 7 = .ok (.iload_n 2, 1) := by decide +kernel
theorem dX12_own_8 : decode cX12_own 8 = .ok (.aload_n 0, 1) := by decide +kernel
theorem dX12_own_9 : decode cX12_own 9 = .ok (.getfield 50, 3) := by decide +kernel
theorem dX12_own_12 : decode cX12_own 12 = .ok (.iload_n 3, 1) := by decide +kernel
theorem dX12_own_13 : decode cX12_own 13 = .ok (.iaload, 1) := by decide +kernel
theorem dX12_own_14 : decode cX12_own 14 = .ok (.aload_n 0, 1) := by decide +kernel
theorem dX12_own_15 : decode cX12_own 15 = .ok (.getfield 53, 3) := by decide +kernel
theorem dX12_own_18 : decode cX12_own 18 = .ok (.iload_n 3, 1) := by decide +kernel
theorem dX12_own_19 : decode cX12_own 19 = .ok (.iaload, 1) := by decide +kernel
theorem dX12_own_20 : decode cX12_own 20 = .ok (.aload_n 0, 1) := by decide +kernel
theorem dX12_own_21 : decode cX12_own 21 = .ok (.getfield 47, 3) := by decide +kernel
theorem dX12_own_24 : decode cX12_own 24 = .ok (.iload_n 3, 1) := by decide +kernel
theorem dX12_own_25 : decode cX12_own 25 = .ok (.iaload, 1) := by decide +kernel
theorem dX12_own_26 : decode cX12_own 26 = .ok (.invokevirtual 437, 3) := by decide +kernel
theorem dX12_own_29 : decode cX12_own 29 = .ok (.lreturn, 1) := by decide +kernel
theorem wk_162 : Cond.fieldLink RX12 47 "ThinLineModel" "bends" "[I" ∈ tl_L := List.mem_filter.mpr ⟨lw_m6 (i := 78) rfl, rfl⟩
theorem wk_920 : Cond.methodLink RX12 437 yX12_scoreNow ∈ tl_L := List.mem_filter.mpr ⟨lw_m8 (i := 26) rfl, rfl⟩
theorem wk_921 : Cond.instanceMethod yX12_scoreNow ∈ tl_L := List.mem_filter.mpr ⟨lw_m8 (i := 28) rfl, rfl⟩
theorem wk_922 : Cond.selects RX12 yX12_scoreNow yX12_scoreNow ∈ tl_L := List.mem_filter.mpr ⟨lw_s10 (i := 6) (q := (yX12_scoreNow, 49)) rfl, rfl⟩
theorem wk_923 : Cond.code yX12_scoreNow cX12_scoreNow 8 (some .long) ∈ tl_L := List.mem_filter.mpr ⟨lw_m8 (i := 29) rfl, rfl⟩
theorem lk_X12_437 : tl_kV RX12 437 RX12 yX12_scoreNow cX12_scoreNow 8 (some .long) 5 := ⟨wk_923, wk_920, wk_921, wk_922, wk_5, ⟨by decide +kernel, by decide +kernel, by decide +kernel⟩⟩
set_option maxHeartbeats 4000000 in
set_option maxRecDepth 100000 in
theorem r_X12_scoreNow (l : Launch) (D : va_G) (cy : Nat → ClassId) (sz : Nat) (L : List Nat) (K : Nat → tk_K) (Γ : tk_G) (f : Nat → va_E) (o : Nat) (p0 : Int32) (p1 : Int32) (p2 : Int32) (p3 : Int32) (p4 : Int32) (t1 : Int) (ho : tp_r L K 39 (0) 0 o) (ht1 : t1 = 6 + p0.toInt ∧ 6 ≤ t1 ∧ t1 ≤ 13) (hnc : 0 ≤ Γ (46, 22, 0) t1.toNat ∧ Γ (46, 22, 0) t1.toNat ≤ 12) (htst : ∀ c : Nat, (c : Int) < Γ (46, 22, 0) t1.toNat → (Γ (45, 1056, 0) (48 * t1 + 4 * (c : Int) + 2).toNat < 0 ∨ (0 ≤ Γ (45, 1056, 0) (48 * t1 + 4 * (c : Int) + 2).toNat ∧ Γ (45, 1056, 0) (48 * t1 + 4 * (c : Int) + 2).toNat ≤ Γ (45, 1056, 0) (48 * t1 + 4 * (c : Int) + 3).toNat ∧ Γ (45, 1056, 0) (48 * t1 + 4 * (c : Int) + 3).toNat ≤ 400 ∧ rp (Γ (43, 8800, 0)) (400 * t1 + Γ (45, 1056, 0) (48 * t1 + 4 * (c : Int) + 2).toNat).toNat (Γ (45, 1056, 0) (48 * t1 + 4 * (c : Int) + 3).toNat - Γ (45, 1056, 0) (48 * t1 + 4 * (c : Int) + 2).toNat).toNat 1))) (hwi : 0 ≤ Γ (51, 22, 0) t1.toNat ∧ Γ (51, 22, 0) t1.toNat ≤ 50) (hgap : 0 ≤ p2.toInt ∧ p3.toInt ≤ 299) (h1 : 0 ≤ p1.toInt ∧ p1.toInt ≤ 23) (hb1 : 0 ≤ p4.toInt ∧ p4.toInt ≤ 40) : Met l yX12_scoreNow (tl_w yX12_scoreNow cX12_scoreNow 8 (some .long)) ({ frames := 4, cells := 0, slots := 0, locals := 105 }) (va_Pc [.ref o, .int p0, .int p1, .int p2, .int p3, .int p4] (tp_P D cy L K Γ f sz)) (va_Ql (fun (r : Int64) (u : (Nat → va_E) × tk_G) => u.2 (39, 0, 0) 0 = Γ (39, 0, 0) 0 ∧ (gex (Γ (59, 300, 0)) (p2.toInt) (p3.toInt + 1) → 0 < Γ (39, 0, 0) 14 → 0 < u.2 (39, 0, 0) 14) ∧ (u.2 (39, 0, 0) 11 = p2.toInt ∧ u.2 (39, 0, 0) 12 = p3.toInt) ∧ (u.2 (39, 0, 0) 15 = 0 ∨ u.2 (39, 0, 0) 15 = 1) ∧ (0 ≤ u.2 (39, 0, 0) 13 ∧ u.2 (39, 0, 0) 13 ≤ 42) ∧ (0 < u.2 (39, 0, 0) 13 → 0 < u.2 (39, 0, 0) 10) ∧ (u.2 (39, 0, 0) 15 = 1 → 0 < u.2 (39, 0, 0) 13 ∧ 0 < u.2 (39, 0, 0) 14) ∧ (u.2 (39, 0, 0) 15 = 1 → gex (Γ (59, 300, 0)) (p2.toInt) (p3.toInt + 1)) ∧ (∀ j : Nat, (j : Int) < u.2 (39, 0, 0) 13 → 0 ≤ u.2 (61, 42, 0) j ∧ u.2 (61, 42, 0) j ≤ 299) ∧ (∀ j : Nat, (j : Int) + 1 < u.2 (39, 0, 0) 13 → u.2 (61, 42, 0) j < u.2 (61, 42, 0) (j + 1))) (tp_BG D cy L K Γ f [39, 58, 57, 60, 61, 62, 63]) (tp_A L sz)) 0 0 (tp_A L sz) := by
  refine Met.ofW (cc := cX12_scoreNow) (maxL := 8) (ret := (some .long)) (by decide) rfl ?_
  intro p e s m args below meth c s₁ B hml hv
  obtain ⟨rfl, hsz, hP, hK, hL, hI, hN, hU⟩ := hv
  have hx := B.exec
  have hb := B.bytes
  have hr := B.returns
  have hta := tl_hta (atoms_spec (ws := tl_w yX12_scoreNow cX12_scoreNow 8 (some .long)) B.pre)
  have hown : s.vm.findClass RX12 = some m.cls := findClass_of_methodNamed B.named
  have hlocks := B.notSynchronized
  subst hsz
  have hI0 := hI
  generalize hAe : tp_A L s.heap.size = A
  have hA : ∀ q : Nat, s.heap.size ≤ q → A q := fun q h => by rw [← hAe]; exact Or.inr h
  have hAL : ∀ q ∈ L, A q := fun q h => by rw [← hAe]; exact Or.inl h
  have hAf : ∀ (H : Heap), s.heap.size ≤ H.size → ∀ q, tp_A L H.size q → A q := fun H h q hq => hq.elim (hAL q) (fun h2 => hA q (Nat.le_trans h h2))
  have hS : va_S A s.heap s.heap [] := va_S.rf
  have hD : va_D A (va_pl L f) := tp_D hL hAL
  have hfr : ∀ b, (K b).1 ∉ ([39, 58, 57, 60, 61, 62, 63] : List Nat) → f b = f b := fun _ _ => rfl
  have hgr : ∀ κ : tk_K, κ.1 ∉ ([39, 58, 57, 60, 61, 62, 63] : List Nat) → Γ κ = Γ κ := fun _ _ => rfl
  have hl := lv_entry ([.ref o, .int p0, .int p1, .int p2, .int p3, .int p4]) (n := 8) (Nat.le_of_ble_eq_true rfl)
  rw [lg_entry_eq]
  generalize (lg_sl ([.ref o, .int p0, .int p1, .int p2, .int p3, .int p4]) ++ List.replicate (8 - (lg_sl ([.ref o, .int p0, .int p1, .int p2, .int p3, .int p4])).length) Slot.unset).toArray = ls at hl ⊢
  have hl : lv_has ls 8 [(0, .ref o), (1, .int p0), (2, .int p1), (3, .int p2), (4, .int p3), (5, .int p4)] := hl
  refine lv_aload_n hx hb dX12_scoreNow_0 rfl (lv_at hl 0 rfl) ?_
  refine lv_iload_n hx hb dX12_scoreNow_1 rfl (lv_at hl 1 rfl) ?_
  refine lv_iload_n hx hb dX12_scoreNow_2 rfl (lv_at hl 2 rfl) ?_
  refine lv_iload_n hx hb dX12_scoreNow_3 rfl (lv_at hl 3 rfl) ?_
  refine lv_iload hx hb dX12_scoreNow_4 (lv_at hl 4 rfl) ?_
  obtain ⟨r_2, v_3, q_4, hf_1, hr_5, hv_6⟩ := (show tp_o_M L K 0 0 (Γ (39, 0, 0)) (f o) from hI.at ho)
  refine tq_cvR hS (hAf _ hS.1) (tq_rV (As := [.int p0, .int p1, .int p2, .int p3]) (rest := []) ⟨hx, hb, hml, hown, hta⟩ (tp_P.pre hK hN hL hU hI hP) (tp_recv hK hP ho.1 hf_1 rfl) lk_X12_418 (r_X12_uses l D cy s.heap.size L K Γ f o p0 p1 p2 p3 t1 ho (by first | omega | (simp only [Int32.toInt_toInt64]; omega) | decide | assumption) (by first | omega | (simp only [Int32.toInt_toInt64]; omega) | decide | assumption) (by first | omega | (simp only [Int32.toInt_toInt64]; omega) | decide | assumption) (by first | omega | (simp only [Int32.toInt_toInt64]; omega) | decide | assumption)) rfl rfl ⟨Nat.le_of_ble_eq_true rfl, Nat.le_of_ble_eq_true rfl⟩ rfl hl.1 rfl (Nat.le_of_ble_eq_true rfl) dX12_scoreNow_6 ⟨Nat.le_of_ble_eq_true rfl, Nat.le_of_ble_eq_true rfl⟩) (fun f_16 Γ_18 H locs hw_14 hP hI hc_17 hcg_19 hS => ?_)
  have hD : va_D A (va_pl L f_16) := tp_D hL hAL
  have hfr := tp_fr2 hfr hc_17 (by decide)
  have hgr : ∀ κ : tk_K, κ.1 ∉ ([39, 58, 57, 60, 61, 62, 63] : List Nat) → Γ_18 κ = Γ κ := tg_fr2 hgr hcg_19 (by decide)
  have hw_14 : 0 ≤ Γ_18 (39, 0, 0) 10 ∧ (Γ_18 (39, 0, 0) 11 = p2.toInt ∧ Γ_18 (39, 0, 0) 12 = p3.toInt) ∧ Γ_18 (39, 0, 0) 0 = Γ (39, 0, 0) 0 ∧ Γ_18 (39, 0, 0) 13 = Γ (39, 0, 0) 13 ∧ Γ_18 (39, 0, 0) 14 = Γ (39, 0, 0) 14 ∧ Γ_18 (39, 0, 0) 15 = Γ (39, 0, 0) 15 ∧ (∀ j : Nat, j < 300 → ¬ Γ_18 (60, 300, 0) j = 0 → 0 < Γ_18 (39, 0, 0) 10) := hw_14
  have hus9 := hw_14.2.2.2.2.2.2
  have huq := hw_14
  refine lv_aload_n hx hb dX12_scoreNow_9 rfl (lv_at hl 0 rfl) ?_
  refine lv_aload_n hx hb dX12_scoreNow_10 rfl (lv_at hl 0 rfl) ?_
  refine lv_iload_n hx hb dX12_scoreNow_11 rfl (lv_at hl 1 rfl) ?_
  refine lv_iload hx hb dX12_scoreNow_12 (lv_at hl 5 rfl) ?_
  obtain ⟨r_21, v_22, q_23, hf_20, hr_24, hv_25⟩ := (show tp_o_M L K 0 0 (Γ_18 (39, 0, 0)) (f_16 o) from hI.at ho)
  refine tq_ciR hS (hAf _ hS.1) (tq_rV (As := [.int p0, .int p4]) (rest := [.ref o]) ⟨hx, hb, hml, hown, hta⟩ (tp_P.pre hK hN hL hU hI hP) (tp_recv hK hP ho.1 hf_20 rfl) lk_X12_422 (r_X12_bows l D cy H.size L K Γ_18 f_16 o p0 p4 t1 ho (by first | omega | (simp only [Int32.toInt_toInt64]; omega) | decide | assumption) (by rw [hgr (51, 22, 0) (by decide)]; exact hwi) hus9 (by first | omega | (simp only [Int32.toInt_toInt64]; omega) | decide | assumption)) rfl rfl ⟨Nat.le_of_ble_eq_true rfl, Nat.le_of_ble_eq_true rfl⟩ rfl hl.1 rfl (Nat.le_of_ble_eq_true rfl) dX12_scoreNow_14 ⟨Nat.le_of_ble_eq_true rfl, Nat.le_of_ble_eq_true rfl⟩) (fun r_34 f_35 Γ_37 H locs hw_33 hP hI hc_36 hcg_38 hS => ?_)
  have hD : va_D A (va_pl L f_35) := tp_D hL hAL
  have hfr := tp_fr2 hfr hc_36 (by decide)
  have hgr : ∀ κ : tk_K, κ.1 ∉ ([39, 58, 57, 60, 61, 62, 63] : List Nat) → Γ_37 κ = Γ κ := tg_fr2 hgr hcg_38 (by decide)
  obtain ⟨hE_39, hw_33⟩ := hw_33
  have hE_39 : tl_E r_34 (0 < Γ_37 (39, 0, 0) 13) 1 0 := hE_39
  have hw_33 : (0 ≤ Γ_37 (39, 0, 0) 13 ∧ Γ_37 (39, 0, 0) 13 ≤ 42) ∧ (0 < Γ_37 (39, 0, 0) 13 → 0 < Γ_18 (39, 0, 0) 10) ∧ Γ_37 (39, 0, 0) 0 = Γ_18 (39, 0, 0) 0 ∧ Γ_37 (39, 0, 0) 10 = Γ_18 (39, 0, 0) 10 ∧ Γ_37 (39, 0, 0) 11 = Γ_18 (39, 0, 0) 11 ∧ Γ_37 (39, 0, 0) 12 = Γ_18 (39, 0, 0) 12 ∧ Γ_37 (39, 0, 0) 14 = Γ_18 (39, 0, 0) 14 ∧ Γ_37 (39, 0, 0) 15 = Γ_18 (39, 0, 0) 15 ∧ (∀ j : Nat, (j : Int) < Γ_37 (39, 0, 0) 13 → 0 ≤ Γ_37 (61, 42, 0) j ∧ Γ_37 (61, 42, 0) j ≤ 299) ∧ (∀ j : Nat, (j : Int) + 1 < Γ_37 (39, 0, 0) 13 → Γ_37 (61, 42, 0) j < Γ_37 (61, 42, 0) (j + 1)) := hw_33
  obtain ⟨hb13, hbpos, hb0, hb10, hb11, hb12, hb14, hb15, hkb9, hris9⟩ := hw_33
  have hr9 : (r_34.toInt = 1 ∧ 0 < Γ_37 (39, 0, 0) 13) ∨ (r_34.toInt = 0 ∧ ¬ 0 < Γ_37 (39, 0, 0) 13) := by rcases hE_39 with ⟨q, e9⟩ | ⟨q, e9⟩; (rw [e9]; exact Or.inl ⟨by decide, q⟩); (rw [e9]; exact Or.inr ⟨by decide, q⟩)
  have hO : Γ_37 (61, 42, 0) = Γ_37 (61, 42, 0) := rfl
  obtain ⟨r_41, v_42, q_43, hf_40, hr_44, hv_45⟩ := (show tp_o_M L K 0 0 (Γ_37 (39, 0, 0)) (f_35 o) from hI.at ho)
  have hx_46 : (v_42 0).toInt = Γ_37 (39, 0, 0) 0 := hv_45 0 (by decide)
  have hx_47 : (v_42 10).toInt = Γ_37 (39, 0, 0) 10 := hv_45 10 (by decide)
  have hx_48 : (v_42 11).toInt = Γ_37 (39, 0, 0) 11 := hv_45 11 (by decide)
  have hx_49 : (v_42 12).toInt = Γ_37 (39, 0, 0) 12 := hv_45 12 (by decide)
  have hx_50 : (v_42 13).toInt = Γ_37 (39, 0, 0) 13 := hv_45 13 (by decide)
  have hx_51 : (v_42 14).toInt = Γ_37 (39, 0, 0) 14 := hv_45 14 (by decide)
  have hx_52 : (v_42 15).toInt = Γ_37 (39, 0, 0) 15 := hv_45 15 (by decide)
  obtain ⟨Γ_53, eΓ_53⟩ : ∃ y : tk_G, y = tg Γ_37 (39, 0, 0) 15 r_34.toInt := ⟨_, rfl⟩
  have hv_54 : ∀ i : Nat, i < 16 → ((upd v_42 15 r_34) i).toInt = Γ_53 (39, 0, 0) i := by rw [eΓ_53, tg_f]; exact tp_gi_upd hv_45
  have hI9 : tp_I cy L K Γ_53 (va_up f_35 o (.inr (12, [.ref (r_41 0), .ref (r_41 1), .int (v_42 0), .ref (r_41 2), .ref (r_41 3), .ref (r_41 4), .ref (r_41 5), .ref (r_41 6), .ref (r_41 7), .ref (r_41 8), .ref (r_41 9), .ref (r_41 10), .ref (r_41 11), .ref (r_41 12), .ref (r_41 13), .ref (r_41 14), .ref (r_41 15), .int (v_42 1), .int (v_42 2), .int (v_42 3), .int (v_42 4), .int (v_42 5), .int (v_42 6), .int (v_42 7), .ref (r_41 16), .int (v_42 8), .ref (r_41 17), .int (v_42 9), .ref (r_41 18), .long q_43, .ref (r_41 19), .ref (r_41 20), .int (v_42 10), .int (v_42 11), .int (v_42 12), .ref (r_41 21), .ref (r_41 22), .int (v_42 13), .ref (r_41 23), .int (v_42 14), .int r_34, .ref (r_41 24), .ref (r_41 25), .ref (r_41 26), .ref (r_41 27), .ref (r_41 28), .ref (r_41 29), .ref (r_41 30), .ref (r_41 31)]))) := by have q9 := hv_54; rw [eΓ_53, tg_f] at q9; rw [eΓ_53]; exact hI.setg hU rfl ho (show tp_o_M L K 0 0 (tgu (Γ_37 (39, 0, 0)) 15 r_34.toInt) _ from ⟨r_41, (upd v_42 15 r_34), q_43, rfl, hr_44, q9⟩)
  have hfr9 : ∀ b, (K b).1 ∉ ([39, 58, 57, 60, 61, 62, 63] : List Nat) → va_up f_35 o (.inr (12, [.ref (r_41 0), .ref (r_41 1), .int (v_42 0), .ref (r_41 2), .ref (r_41 3), .ref (r_41 4), .ref (r_41 5), .ref (r_41 6), .ref (r_41 7), .ref (r_41 8), .ref (r_41 9), .ref (r_41 10), .ref (r_41 11), .ref (r_41 12), .ref (r_41 13), .ref (r_41 14), .ref (r_41 15), .int (v_42 1), .int (v_42 2), .int (v_42 3), .int (v_42 4), .int (v_42 5), .int (v_42 6), .int (v_42 7), .ref (r_41 16), .int (v_42 8), .ref (r_41 17), .int (v_42 9), .ref (r_41 18), .long q_43, .ref (r_41 19), .ref (r_41 20), .int (v_42 10), .int (v_42 11), .int (v_42 12), .ref (r_41 21), .ref (r_41 22), .int (v_42 13), .ref (r_41 23), .int (v_42 14), .int r_34, .ref (r_41 24), .ref (r_41 25), .ref (r_41 26), .ref (r_41 27), .ref (r_41 28), .ref (r_41 29), .ref (r_41 30), .ref (r_41 31)])) b = f b := tp_fr hfr ho (by decide)
  refine tp_put (cy := cy) (ci := 12) (v := .int r_34) (ty := tyX12 40) (C := RX12) (T := TX12) (N := 49) hx hb hta inlX12 tyX12 tyX12_ok nmX12 hown hK hP hD hS ho.1 hf_40 rfl 40 (by decide) (hta _ wk_924) (fun _ h9 => h9) rfl (tyX12_ok 40 (by decide)) hE_39.nar (by rcases hE_39 with ⟨_, e9⟩ | ⟨_, e9⟩ <;> rw [e9] <;> rfl) (Nat.le_of_ble_eq_true rfl) dX12_scoreNow_17 (fun H locs hP hD hS => ?_)
  have hP : va_P D vwCl (va_pl L (va_up f_35 o (.inr (12, [.ref (r_41 0), .ref (r_41 1), .int (v_42 0), .ref (r_41 2), .ref (r_41 3), .ref (r_41 4), .ref (r_41 5), .ref (r_41 6), .ref (r_41 7), .ref (r_41 8), .ref (r_41 9), .ref (r_41 10), .ref (r_41 11), .ref (r_41 12), .ref (r_41 13), .ref (r_41 14), .ref (r_41 15), .int (v_42 1), .int (v_42 2), .int (v_42 3), .int (v_42 4), .int (v_42 5), .int (v_42 6), .int (v_42 7), .ref (r_41 16), .int (v_42 8), .ref (r_41 17), .int (v_42 9), .ref (r_41 18), .long q_43, .ref (r_41 19), .ref (r_41 20), .int (v_42 10), .int (v_42 11), .int (v_42 12), .ref (r_41 21), .ref (r_41 22), .int (v_42 13), .ref (r_41 23), .int (v_42 14), .int r_34, .ref (r_41 24), .ref (r_41 25), .ref (r_41 26), .ref (r_41 27), .ref (r_41 28), .ref (r_41 29), .ref (r_41 30), .ref (r_41 31)])))) H := hP
  generalize hfe : va_up f_35 o (.inr (12, [.ref (r_41 0), .ref (r_41 1), .int (v_42 0), .ref (r_41 2), .ref (r_41 3), .ref (r_41 4), .ref (r_41 5), .ref (r_41 6), .ref (r_41 7), .ref (r_41 8), .ref (r_41 9), .ref (r_41 10), .ref (r_41 11), .ref (r_41 12), .ref (r_41 13), .ref (r_41 14), .ref (r_41 15), .int (v_42 1), .int (v_42 2), .int (v_42 3), .int (v_42 4), .int (v_42 5), .int (v_42 6), .int (v_42 7), .ref (r_41 16), .int (v_42 8), .ref (r_41 17), .int (v_42 9), .ref (r_41 18), .long q_43, .ref (r_41 19), .ref (r_41 20), .int (v_42 10), .int (v_42 11), .int (v_42 12), .ref (r_41 21), .ref (r_41 22), .int (v_42 13), .ref (r_41 23), .int (v_42 14), .int r_34, .ref (r_41 24), .ref (r_41 25), .ref (r_41 26), .ref (r_41 27), .ref (r_41 28), .ref (r_41 29), .ref (r_41 30), .ref (r_41 31)])) = f_55 at hP hI9 hfr9
  have hD : va_D A (va_pl L f_55) := tp_D hL hAL
  have hf_56 : f_55 o = .inr (12, [.ref (r_41 0), .ref (r_41 1), .int (v_42 0), .ref (r_41 2), .ref (r_41 3), .ref (r_41 4), .ref (r_41 5), .ref (r_41 6), .ref (r_41 7), .ref (r_41 8), .ref (r_41 9), .ref (r_41 10), .ref (r_41 11), .ref (r_41 12), .ref (r_41 13), .ref (r_41 14), .ref (r_41 15), .int (v_42 1), .int (v_42 2), .int (v_42 3), .int (v_42 4), .int (v_42 5), .int (v_42 6), .int (v_42 7), .ref (r_41 16), .int (v_42 8), .ref (r_41 17), .int (v_42 9), .ref (r_41 18), .long q_43, .ref (r_41 19), .ref (r_41 20), .int (v_42 10), .int (v_42 11), .int (v_42 12), .ref (r_41 21), .ref (r_41 22), .int (v_42 13), .ref (r_41 23), .int (v_42 14), .int r_34, .ref (r_41 24), .ref (r_41 25), .ref (r_41 26), .ref (r_41 27), .ref (r_41 28), .ref (r_41 29), .ref (r_41 30), .ref (r_41 31)]) := by rw [← hfe]; exact va_up_self _ _ _
  clear hfe
  have hI := hI9
  have hfr := hfr9
  clear hI9 hfr9
  have hgr : ∀ κ : tk_K, κ.1 ∉ ([39, 58, 57, 60, 61, 62, 63] : List Nat) → Γ_53 κ = Γ κ := tg_fr hgr eΓ_53 (by decide)
  have hx_57 : (v_42 0).toInt = Γ_53 (39, 0, 0) 0 := hv_54 0 (by decide)
  have hx_58 : (v_42 10).toInt = Γ_53 (39, 0, 0) 10 := hv_54 10 (by decide)
  have hx_59 : (v_42 11).toInt = Γ_53 (39, 0, 0) 11 := hv_54 11 (by decide)
  have hx_60 : (v_42 12).toInt = Γ_53 (39, 0, 0) 12 := hv_54 12 (by decide)
  have hx_61 : (v_42 13).toInt = Γ_53 (39, 0, 0) 13 := hv_54 13 (by decide)
  have hx_62 : (v_42 14).toInt = Γ_53 (39, 0, 0) 14 := hv_54 14 (by decide)
  have hx_63 : r_34.toInt = Γ_53 (39, 0, 0) 15 := hv_54 15 (by decide)
  have hO : Γ_53 (61, 42, 0) = Γ_37 (61, 42, 0) := (show Γ_53 (61, 42, 0) = _ from by rw [eΓ_53, tg_rf (by decide)]).trans hO
  refine lv_aload_n hx hb dX12_scoreNow_20 rfl (lv_at hl 0 rfl) ?_
  refine tp_get (cy := cy) (ci := 12) (v := .int r_34) (C := RX12) (T := TX12) (N := 49) hx hb hta inlX12 hown hK hP ho.1 hf_56 rfl 40 (by decide) (hta _ wk_924) (fun _ h9 => h9) rfl dX12_scoreNow_21 ?_
  refine lv_if_ne (tgt := 31) hx hb dX12_scoreNow_24 (by decide) (fun c_64 => ?_) (fun c_64 => ?_)
  · have c_64 := hE_39.t c_64
    refine lv_aload_n hx hb dX12_scoreNow_31 rfl (lv_at hl 0 rfl) ?_
    have hgr0 := hgr
    refine tq_clR hS (hAf _ hS.1) (tq_rV (As := []) (rest := []) ⟨hx, hb, hml, hown, hta⟩ (tp_P.pre hK hN hL hU hI hP) (tp_recv hK hP ho.1 hf_56 rfl) lk_X12_431 (r_X12_deepNow l D cy H.size L K Γ_53 f_55 o ho (by first | omega | (simp only [Int32.toInt_toInt64]; omega) | decide | assumption)) rfl rfl ⟨Nat.le_of_ble_eq_true rfl, Nat.le_of_ble_eq_true rfl⟩ rfl hl.1 rfl (Nat.le_of_ble_eq_true rfl) dX12_scoreNow_32 ⟨Nat.le_of_ble_eq_true rfl, Nat.le_of_ble_eq_true rfl⟩) (fun r_66 f_67 Γ_69 H locs hw_65 hP hI hc_68 hcg_70 hS => ?_)
    have hD : va_D A (va_pl L f_67) := tp_D hL hAL
    have hfr := tp_fr2 hfr hc_68 (by decide)
    have hgr : ∀ κ : tk_K, κ.1 ∉ ([39, 58, 57, 60, 61, 62, 63] : List Nat) → Γ_69 κ = Γ κ := tg_fr2 hgr hcg_70 (by decide)
    have hw_65 : 0 ≤ Γ_69 (39, 0, 0) 14 ∧ (0 < Γ_69 (39, 0, 0) 14 ↔ gex (Γ_53 (59, 300, 0)) (Γ_53 (39, 0, 0) 11) (Γ_53 (39, 0, 0) 12 + 1)) ∧ Γ_69 (39, 0, 0) 0 = Γ_53 (39, 0, 0) 0 ∧ Γ_69 (39, 0, 0) 10 = Γ_53 (39, 0, 0) 10 ∧ Γ_69 (39, 0, 0) 11 = Γ_53 (39, 0, 0) 11 ∧ Γ_69 (39, 0, 0) 12 = Γ_53 (39, 0, 0) 12 ∧ Γ_69 (39, 0, 0) 13 = Γ_53 (39, 0, 0) 13 ∧ Γ_69 (39, 0, 0) 15 = Γ_53 (39, 0, 0) 15 := hw_65
    have hO : Γ_69 (61, 42, 0) = Γ_37 (61, 42, 0) := (hcg_70 (61, 42, 0) (by decide)).trans hO
    refine lv_lstore (lv' := [(6, .long r_66), (0, .ref o), (1, .int p0), (2, .int p1), (3, .int p2), (4, .int p3), (5, .int p4)]) hx hb dX12_scoreNow_35 hl (by decide) rfl (fun ls hl => ?_)
    refine lv_aload_n hx hb dX12_scoreNow_37 rfl (lv_at hl 1 rfl) ?_
    refine lv_aload_n hx hb dX12_scoreNow_38 rfl (lv_at hl 1 rfl) ?_
    obtain ⟨r_72, v_73, q_74, hf_71, hr_75, hv_76⟩ := (show tp_o_M L K 0 0 (Γ_69 (39, 0, 0)) (f_67 o) from hI.at ho)
    have hx_77 : (v_73 0).toInt = Γ_69 (39, 0, 0) 0 := hv_76 0 (by decide)
    have hx_78 : (v_73 10).toInt = Γ_69 (39, 0, 0) 10 := hv_76 10 (by decide)
    have hx_79 : (v_73 11).toInt = Γ_69 (39, 0, 0) 11 := hv_76 11 (by decide)
    have hx_80 : (v_73 12).toInt = Γ_69 (39, 0, 0) 12 := hv_76 12 (by decide)
    have hx_81 : (v_73 13).toInt = Γ_69 (39, 0, 0) 13 := hv_76 13 (by decide)
    have hx_82 : (v_73 14).toInt = Γ_69 (39, 0, 0) 14 := hv_76 14 (by decide)
    have hx_83 : (v_73 15).toInt = Γ_69 (39, 0, 0) 15 := hv_76 15 (by decide)
    refine tp_get (cy := cy) (ci := 12) (v := .int (v_73 14)) (C := RX12) (T := TX12) (N := 49) hx hb hta inlX12 hown hK hP ho.1 hf_71 rfl 39 (by decide) (hta _ wk_926) (fun _ h9 => h9) rfl dX12_scoreNow_39 ?_
    refine lv_if_le (tgt := 49) hx hb dX12_scoreNow_42 (by decide) (fun c_84 => ?_) (fun c_84 => ?_)
    · have c_84 : (v_73 14).toInt ≤ (0 : Int) := tl_le c_84
      refine lv_iconst (v := 0) hx hb dX12_scoreNow_49 (by decide) ?_
      obtain ⟨Γ_85, eΓ_85⟩ : ∃ y : tk_G, y = tg Γ_69 (39, 0, 0) 15 (0 : Int) := ⟨_, rfl⟩
      have hv_86 : ∀ i : Nat, i < 16 → ((upd v_73 15 (0 : Int32)) i).toInt = Γ_85 (39, 0, 0) i := by rw [eΓ_85, tg_f]; exact tp_gi_upd hv_76
      have hI9 : tp_I cy L K Γ_85 (va_up f_67 o (.inr (12, [.ref (r_72 0), .ref (r_72 1), .int (v_73 0), .ref (r_72 2), .ref (r_72 3), .ref (r_72 4), .ref (r_72 5), .ref (r_72 6), .ref (r_72 7), .ref (r_72 8), .ref (r_72 9), .ref (r_72 10), .ref (r_72 11), .ref (r_72 12), .ref (r_72 13), .ref (r_72 14), .ref (r_72 15), .int (v_73 1), .int (v_73 2), .int (v_73 3), .int (v_73 4), .int (v_73 5), .int (v_73 6), .int (v_73 7), .ref (r_72 16), .int (v_73 8), .ref (r_72 17), .int (v_73 9), .ref (r_72 18), .long q_74, .ref (r_72 19), .ref (r_72 20), .int (v_73 10), .int (v_73 11), .int (v_73 12), .ref (r_72 21), .ref (r_72 22), .int (v_73 13), .ref (r_72 23), .int (v_73 14), .int 0, .ref (r_72 24), .ref (r_72 25), .ref (r_72 26), .ref (r_72 27), .ref (r_72 28), .ref (r_72 29), .ref (r_72 30), .ref (r_72 31)]))) := by have q9 := hv_86; rw [eΓ_85, tg_f] at q9; rw [eΓ_85]; exact hI.setg hU rfl ho (show tp_o_M L K 0 0 (tgu (Γ_69 (39, 0, 0)) 15 (0 : Int)) _ from ⟨r_72, (upd v_73 15 (0 : Int32)), q_74, rfl, hr_75, q9⟩)
      have hfr9 : ∀ b, (K b).1 ∉ ([39, 58, 57, 60, 61, 62, 63] : List Nat) → va_up f_67 o (.inr (12, [.ref (r_72 0), .ref (r_72 1), .int (v_73 0), .ref (r_72 2), .ref (r_72 3), .ref (r_72 4), .ref (r_72 5), .ref (r_72 6), .ref (r_72 7), .ref (r_72 8), .ref (r_72 9), .ref (r_72 10), .ref (r_72 11), .ref (r_72 12), .ref (r_72 13), .ref (r_72 14), .ref (r_72 15), .int (v_73 1), .int (v_73 2), .int (v_73 3), .int (v_73 4), .int (v_73 5), .int (v_73 6), .int (v_73 7), .ref (r_72 16), .int (v_73 8), .ref (r_72 17), .int (v_73 9), .ref (r_72 18), .long q_74, .ref (r_72 19), .ref (r_72 20), .int (v_73 10), .int (v_73 11), .int (v_73 12), .ref (r_72 21), .ref (r_72 22), .int (v_73 13), .ref (r_72 23), .int (v_73 14), .int 0, .ref (r_72 24), .ref (r_72 25), .ref (r_72 26), .ref (r_72 27), .ref (r_72 28), .ref (r_72 29), .ref (r_72 30), .ref (r_72 31)])) b = f b := tp_fr hfr ho (by decide)
      refine tp_put (cy := cy) (ci := 12) (v := .int 0) (ty := tyX12 40) (C := RX12) (T := TX12) (N := 49) hx hb hta inlX12 tyX12 tyX12_ok nmX12 hown hK hP hD hS ho.1 hf_71 rfl 40 (by decide) (hta _ wk_924) (fun _ h9 => h9) rfl (tyX12_ok 40 (by decide)) rfl rfl (Nat.le_of_ble_eq_true rfl) dX12_scoreNow_50 (fun H locs hP hD hS => ?_)
      have hP : va_P D vwCl (va_pl L (va_up f_67 o (.inr (12, [.ref (r_72 0), .ref (r_72 1), .int (v_73 0), .ref (r_72 2), .ref (r_72 3), .ref (r_72 4), .ref (r_72 5), .ref (r_72 6), .ref (r_72 7), .ref (r_72 8), .ref (r_72 9), .ref (r_72 10), .ref (r_72 11), .ref (r_72 12), .ref (r_72 13), .ref (r_72 14), .ref (r_72 15), .int (v_73 1), .int (v_73 2), .int (v_73 3), .int (v_73 4), .int (v_73 5), .int (v_73 6), .int (v_73 7), .ref (r_72 16), .int (v_73 8), .ref (r_72 17), .int (v_73 9), .ref (r_72 18), .long q_74, .ref (r_72 19), .ref (r_72 20), .int (v_73 10), .int (v_73 11), .int (v_73 12), .ref (r_72 21), .ref (r_72 22), .int (v_73 13), .ref (r_72 23), .int (v_73 14), .int 0, .ref (r_72 24), .ref (r_72 25), .ref (r_72 26), .ref (r_72 27), .ref (r_72 28), .ref (r_72 29), .ref (r_72 30), .ref (r_72 31)])))) H := hP
      generalize hfe : va_up f_67 o (.inr (12, [.ref (r_72 0), .ref (r_72 1), .int (v_73 0), .ref (r_72 2), .ref (r_72 3), .ref (r_72 4), .ref (r_72 5), .ref (r_72 6), .ref (r_72 7), .ref (r_72 8), .ref (r_72 9), .ref (r_72 10), .ref (r_72 11), .ref (r_72 12), .ref (r_72 13), .ref (r_72 14), .ref (r_72 15), .int (v_73 1), .int (v_73 2), .int (v_73 3), .int (v_73 4), .int (v_73 5), .int (v_73 6), .int (v_73 7), .ref (r_72 16), .int (v_73 8), .ref (r_72 17), .int (v_73 9), .ref (r_72 18), .long q_74, .ref (r_72 19), .ref (r_72 20), .int (v_73 10), .int (v_73 11), .int (v_73 12), .ref (r_72 21), .ref (r_72 22), .int (v_73 13), .ref (r_72 23), .int (v_73 14), .int 0, .ref (r_72 24), .ref (r_72 25), .ref (r_72 26), .ref (r_72 27), .ref (r_72 28), .ref (r_72 29), .ref (r_72 30), .ref (r_72 31)])) = f_87 at hP hI9 hfr9
      have hD : va_D A (va_pl L f_87) := tp_D hL hAL
      have hf_88 : f_87 o = .inr (12, [.ref (r_72 0), .ref (r_72 1), .int (v_73 0), .ref (r_72 2), .ref (r_72 3), .ref (r_72 4), .ref (r_72 5), .ref (r_72 6), .ref (r_72 7), .ref (r_72 8), .ref (r_72 9), .ref (r_72 10), .ref (r_72 11), .ref (r_72 12), .ref (r_72 13), .ref (r_72 14), .ref (r_72 15), .int (v_73 1), .int (v_73 2), .int (v_73 3), .int (v_73 4), .int (v_73 5), .int (v_73 6), .int (v_73 7), .ref (r_72 16), .int (v_73 8), .ref (r_72 17), .int (v_73 9), .ref (r_72 18), .long q_74, .ref (r_72 19), .ref (r_72 20), .int (v_73 10), .int (v_73 11), .int (v_73 12), .ref (r_72 21), .ref (r_72 22), .int (v_73 13), .ref (r_72 23), .int (v_73 14), .int 0, .ref (r_72 24), .ref (r_72 25), .ref (r_72 26), .ref (r_72 27), .ref (r_72 28), .ref (r_72 29), .ref (r_72 30), .ref (r_72 31)]) := by rw [← hfe]; exact va_up_self _ _ _
      clear hfe
      have hI := hI9
      have hfr := hfr9
      clear hI9 hfr9
      have hgr : ∀ κ : tk_K, κ.1 ∉ ([39, 58, 57, 60, 61, 62, 63] : List Nat) → Γ_85 κ = Γ κ := tg_fr hgr eΓ_85 (by decide)
      have hx_89 : (v_73 0).toInt = Γ_85 (39, 0, 0) 0 := hv_86 0 (by decide)
      have hx_90 : (v_73 10).toInt = Γ_85 (39, 0, 0) 10 := hv_86 10 (by decide)
      have hx_91 : (v_73 11).toInt = Γ_85 (39, 0, 0) 11 := hv_86 11 (by decide)
      have hx_92 : (v_73 12).toInt = Γ_85 (39, 0, 0) 12 := hv_86 12 (by decide)
      have hx_93 : (v_73 13).toInt = Γ_85 (39, 0, 0) 13 := hv_86 13 (by decide)
      have hx_94 : (v_73 14).toInt = Γ_85 (39, 0, 0) 14 := hv_86 14 (by decide)
      have hx_95 : (0 : Int) = Γ_85 (39, 0, 0) 15 := hv_86 15 (by decide)
      have hO : Γ_85 (61, 42, 0) = Γ_37 (61, 42, 0) := (show Γ_85 (61, 42, 0) = _ from by rw [eΓ_85, tg_rf (by decide)]).trans hO
      refine lv_aload_n hx hb dX12_scoreNow_53 rfl (lv_at hl 1 rfl) ?_
      refine tp_get (cy := cy) (ci := 12) (v := .int 0) (C := RX12) (T := TX12) (N := 49) hx hb hta inlX12 hown hK hP ho.1 hf_88 rfl 40 (by decide) (hta _ wk_924) (fun _ h9 => h9) rfl dX12_scoreNow_54 ?_
      refine lv_if_eq (tgt := 76) hx hb dX12_scoreNow_57 (by decide) (fun _ => ?_) (fun c => absurd c (by decide))
      refine lv_ldc2 (v := (-1000000000)) hx hb hown (hta _ wk_925) dX12_scoreNow_76 ?_
      have hpo9 : Γ_85 (39, 0, 0) 0 = Γ (39, 0, 0) 0 ∧ (gex (Γ (59, 300, 0)) (p2.toInt) (p3.toInt + 1) → 0 < Γ (39, 0, 0) 14 → 0 < Γ_85 (39, 0, 0) 14) ∧ (Γ_85 (39, 0, 0) 11 = p2.toInt ∧ Γ_85 (39, 0, 0) 12 = p3.toInt) ∧ (Γ_85 (39, 0, 0) 15 = 0 ∨ Γ_85 (39, 0, 0) 15 = 1) ∧ (0 ≤ Γ_85 (39, 0, 0) 13 ∧ Γ_85 (39, 0, 0) 13 ≤ 42) ∧ (0 < Γ_85 (39, 0, 0) 13 → 0 < Γ_85 (39, 0, 0) 10) ∧ (Γ_85 (39, 0, 0) 15 = 1 → 0 < Γ_85 (39, 0, 0) 13 ∧ 0 < Γ_85 (39, 0, 0) 14) ∧ (Γ_85 (39, 0, 0) 15 = 1 → gex (Γ (59, 300, 0)) (p2.toInt) (p3.toInt + 1)) ∧ (∀ j : Nat, (j : Int) < Γ_85 (39, 0, 0) 13 → 0 ≤ Γ_85 (61, 42, 0) j ∧ Γ_85 (61, 42, 0) j ≤ 299) ∧ (∀ j : Nat, (j : Int) + 1 < Γ_85 (39, 0, 0) 13 → Γ_85 (61, 42, 0) j < Γ_85 (61, 42, 0) (j + 1)) := ⟨(by omega), (fun q9 q8 => by have q7 := (hw_65.2.1).mpr (by rw [hgr0 (59, 300, 0) (by decide), show Γ_53 (39, 0, 0) 11 = p2.toInt from by omega, show Γ_53 (39, 0, 0) 12 = p3.toInt from by omega]; exact q9); omega), (by omega), (by omega), (by omega), (by omega), (by omega), (fun q9 => by have q8 := (hw_65.2.1).mp (by omega); rw [hgr0 (59, 300, 0) (by decide), show Γ_53 (39, 0, 0) 11 = p2.toInt from by omega, show Γ_53 (39, 0, 0) 12 = p3.toInt from by omega] at q8; exact q8), (fun j9 q9 => by rw [hO]; exact hkb9 j9 (by omega)), (fun j9 q9 => by rw [hO]; exact hris9 j9 (by omega))⟩
      exact W.lret (v := (-1000000000)) hx hb hr (fun t ht hW => ⟨⟨_, (f_87, Γ_85), rfl, hpo9, by rw [ht]; exact hP, hI, hfr, hgr⟩, hS.F ht⟩) hS.2.2 dX12_scoreNow_79
    · have c_84 : (0 : Int) < (v_73 14).toInt := tl_nle c_84
      refine lv_iconst (v := 1) hx hb dX12_scoreNow_45 (by decide) ?_
      refine lv_goto (tgt := 50) hx hb dX12_scoreNow_46 (by decide) ?_
      obtain ⟨Γ_96, eΓ_96⟩ : ∃ y : tk_G, y = tg Γ_69 (39, 0, 0) 15 (1 : Int) := ⟨_, rfl⟩
      have hv_97 : ∀ i : Nat, i < 16 → ((upd v_73 15 (1 : Int32)) i).toInt = Γ_96 (39, 0, 0) i := by rw [eΓ_96, tg_f]; exact tp_gi_upd hv_76
      have hI9 : tp_I cy L K Γ_96 (va_up f_67 o (.inr (12, [.ref (r_72 0), .ref (r_72 1), .int (v_73 0), .ref (r_72 2), .ref (r_72 3), .ref (r_72 4), .ref (r_72 5), .ref (r_72 6), .ref (r_72 7), .ref (r_72 8), .ref (r_72 9), .ref (r_72 10), .ref (r_72 11), .ref (r_72 12), .ref (r_72 13), .ref (r_72 14), .ref (r_72 15), .int (v_73 1), .int (v_73 2), .int (v_73 3), .int (v_73 4), .int (v_73 5), .int (v_73 6), .int (v_73 7), .ref (r_72 16), .int (v_73 8), .ref (r_72 17), .int (v_73 9), .ref (r_72 18), .long q_74, .ref (r_72 19), .ref (r_72 20), .int (v_73 10), .int (v_73 11), .int (v_73 12), .ref (r_72 21), .ref (r_72 22), .int (v_73 13), .ref (r_72 23), .int (v_73 14), .int 1, .ref (r_72 24), .ref (r_72 25), .ref (r_72 26), .ref (r_72 27), .ref (r_72 28), .ref (r_72 29), .ref (r_72 30), .ref (r_72 31)]))) := by have q9 := hv_97; rw [eΓ_96, tg_f] at q9; rw [eΓ_96]; exact hI.setg hU rfl ho (show tp_o_M L K 0 0 (tgu (Γ_69 (39, 0, 0)) 15 (1 : Int)) _ from ⟨r_72, (upd v_73 15 (1 : Int32)), q_74, rfl, hr_75, q9⟩)
      have hfr9 : ∀ b, (K b).1 ∉ ([39, 58, 57, 60, 61, 62, 63] : List Nat) → va_up f_67 o (.inr (12, [.ref (r_72 0), .ref (r_72 1), .int (v_73 0), .ref (r_72 2), .ref (r_72 3), .ref (r_72 4), .ref (r_72 5), .ref (r_72 6), .ref (r_72 7), .ref (r_72 8), .ref (r_72 9), .ref (r_72 10), .ref (r_72 11), .ref (r_72 12), .ref (r_72 13), .ref (r_72 14), .ref (r_72 15), .int (v_73 1), .int (v_73 2), .int (v_73 3), .int (v_73 4), .int (v_73 5), .int (v_73 6), .int (v_73 7), .ref (r_72 16), .int (v_73 8), .ref (r_72 17), .int (v_73 9), .ref (r_72 18), .long q_74, .ref (r_72 19), .ref (r_72 20), .int (v_73 10), .int (v_73 11), .int (v_73 12), .ref (r_72 21), .ref (r_72 22), .int (v_73 13), .ref (r_72 23), .int (v_73 14), .int 1, .ref (r_72 24), .ref (r_72 25), .ref (r_72 26), .ref (r_72 27), .ref (r_72 28), .ref (r_72 29), .ref (r_72 30), .ref (r_72 31)])) b = f b := tp_fr hfr ho (by decide)
      refine tp_put (cy := cy) (ci := 12) (v := .int 1) (ty := tyX12 40) (C := RX12) (T := TX12) (N := 49) hx hb hta inlX12 tyX12 tyX12_ok nmX12 hown hK hP hD hS ho.1 hf_71 rfl 40 (by decide) (hta _ wk_924) (fun _ h9 => h9) rfl (tyX12_ok 40 (by decide)) rfl rfl (Nat.le_of_ble_eq_true rfl) dX12_scoreNow_50 (fun H locs hP hD hS => ?_)
      have hP : va_P D vwCl (va_pl L (va_up f_67 o (.inr (12, [.ref (r_72 0), .ref (r_72 1), .int (v_73 0), .ref (r_72 2), .ref (r_72 3), .ref (r_72 4), .ref (r_72 5), .ref (r_72 6), .ref (r_72 7), .ref (r_72 8), .ref (r_72 9), .ref (r_72 10), .ref (r_72 11), .ref (r_72 12), .ref (r_72 13), .ref (r_72 14), .ref (r_72 15), .int (v_73 1), .int (v_73 2), .int (v_73 3), .int (v_73 4), .int (v_73 5), .int (v_73 6), .int (v_73 7), .ref (r_72 16), .int (v_73 8), .ref (r_72 17), .int (v_73 9), .ref (r_72 18), .long q_74, .ref (r_72 19), .ref (r_72 20), .int (v_73 10), .int (v_73 11), .int (v_73 12), .ref (r_72 21), .ref (r_72 22), .int (v_73 13), .ref (r_72 23), .int (v_73 14), .int 1, .ref (r_72 24), .ref (r_72 25), .ref (r_72 26), .ref (r_72 27), .ref (r_72 28), .ref (r_72 29), .ref (r_72 30), .ref (r_72 31)])))) H := hP
      generalize hfe : va_up f_67 o (.inr (12, [.ref (r_72 0), .ref (r_72 1), .int (v_73 0), .ref (r_72 2), .ref (r_72 3), .ref (r_72 4), .ref (r_72 5), .ref (r_72 6), .ref (r_72 7), .ref (r_72 8), .ref (r_72 9), .ref (r_72 10), .ref (r_72 11), .ref (r_72 12), .ref (r_72 13), .ref (r_72 14), .ref (r_72 15), .int (v_73 1), .int (v_73 2), .int (v_73 3), .int (v_73 4), .int (v_73 5), .int (v_73 6), .int (v_73 7), .ref (r_72 16), .int (v_73 8), .ref (r_72 17), .int (v_73 9), .ref (r_72 18), .long q_74, .ref (r_72 19), .ref (r_72 20), .int (v_73 10), .int (v_73 11), .int (v_73 12), .ref (r_72 21), .ref (r_72 22), .int (v_73 13), .ref (r_72 23), .int (v_73 14), .int 1, .ref (r_72 24), .ref (r_72 25), .ref (r_72 26), .ref (r_72 27), .ref (r_72 28), .ref (r_72 29), .ref (r_72 30), .ref (r_72 31)])) = f_98 at hP hI9 hfr9
      have hD : va_D A (va_pl L f_98) := tp_D hL hAL
      have hf_99 : f_98 o = .inr (12, [.ref (r_72 0), .ref (r_72 1), .int (v_73 0), .ref (r_72 2), .ref (r_72 3), .ref (r_72 4), .ref (r_72 5), .ref (r_72 6), .ref (r_72 7), .ref (r_72 8), .ref (r_72 9), .ref (r_72 10), .ref (r_72 11), .ref (r_72 12), .ref (r_72 13), .ref (r_72 14), .ref (r_72 15), .int (v_73 1), .int (v_73 2), .int (v_73 3), .int (v_73 4), .int (v_73 5), .int (v_73 6), .int (v_73 7), .ref (r_72 16), .int (v_73 8), .ref (r_72 17), .int (v_73 9), .ref (r_72 18), .long q_74, .ref (r_72 19), .ref (r_72 20), .int (v_73 10), .int (v_73 11), .int (v_73 12), .ref (r_72 21), .ref (r_72 22), .int (v_73 13), .ref (r_72 23), .int (v_73 14), .int 1, .ref (r_72 24), .ref (r_72 25), .ref (r_72 26), .ref (r_72 27), .ref (r_72 28), .ref (r_72 29), .ref (r_72 30), .ref (r_72 31)]) := by rw [← hfe]; exact va_up_self _ _ _
      clear hfe
      have hI := hI9
      have hfr := hfr9
      clear hI9 hfr9
      have hgr : ∀ κ : tk_K, κ.1 ∉ ([39, 58, 57, 60, 61, 62, 63] : List Nat) → Γ_96 κ = Γ κ := tg_fr hgr eΓ_96 (by decide)
      have hx_100 : (v_73 0).toInt = Γ_96 (39, 0, 0) 0 := hv_97 0 (by decide)
      have hx_101 : (v_73 10).toInt = Γ_96 (39, 0, 0) 10 := hv_97 10 (by decide)
      have hx_102 : (v_73 11).toInt = Γ_96 (39, 0, 0) 11 := hv_97 11 (by decide)
      have hx_103 : (v_73 12).toInt = Γ_96 (39, 0, 0) 12 := hv_97 12 (by decide)
      have hx_104 : (v_73 13).toInt = Γ_96 (39, 0, 0) 13 := hv_97 13 (by decide)
      have hx_105 : (v_73 14).toInt = Γ_96 (39, 0, 0) 14 := hv_97 14 (by decide)
      have hx_106 : (1 : Int) = Γ_96 (39, 0, 0) 15 := hv_97 15 (by decide)
      have hO : Γ_96 (61, 42, 0) = Γ_37 (61, 42, 0) := (show Γ_96 (61, 42, 0) = _ from by rw [eΓ_96, tg_rf (by decide)]).trans hO
      refine lv_aload_n hx hb dX12_scoreNow_53 rfl (lv_at hl 1 rfl) ?_
      refine tp_get (cy := cy) (ci := 12) (v := .int 1) (C := RX12) (T := TX12) (N := 49) hx hb hta inlX12 hown hK hP ho.1 hf_99 rfl 40 (by decide) (hta _ wk_924) (fun _ h9 => h9) rfl dX12_scoreNow_54 ?_
      refine lv_if_eq (tgt := 76) hx hb dX12_scoreNow_57 (by decide) (fun c => absurd c (by decide)) (fun _ => ?_)
      refine lv_ldc2 (v := 1000) hx hb hown (hta _ wk_326) dX12_scoreNow_60 ?_
      refine lv_lload hx hb dX12_scoreNow_63 (lv_at hl 0 rfl) ?_
      refine lv_lmul hx hb dX12_scoreNow_65 ?_
      refine lv_topl (fun z_107 ez_107 => ?_)
      refine lv_aload_n hx hb dX12_scoreNow_66 rfl (lv_at hl 1 rfl) ?_
      refine tl_sl (tq_rV (As := []) (rest := [.long z_107]) ⟨hx, hb, hml, hown, hta⟩ (tp_P.pre hK hN hL hU hI hP) (tp_recv hK hP ho.1 hf_99 rfl) lk_X12_434 (r_X12_noiseNow l D cy H.size L K Γ_96 f_98 o ho (by first | omega | (simp only [Int32.toInt_toInt64]; omega) | decide | assumption)) rfl rfl ⟨Nat.le_of_ble_eq_true rfl, Nat.le_of_ble_eq_true rfl⟩ rfl hl.1 rfl (Nat.le_of_ble_eq_true rfl) dX12_scoreNow_67 ⟨Nat.le_of_ble_eq_true rfl, Nat.le_of_ble_eq_true rfl⟩) (fun r_109 hw_108 => ?_)
      have hw_108 : 1 ≤ r_109.toInt := hw_108
      refine tl_sl (tq_rS (As := [.long z_107, .long r_109]) (rest := []) ⟨hx, hb, hml, hown, hta⟩ (tp_P.pre hK hN hL hU hI hP) lk_X12_401 (r_X12_down l D cy H.size L K Γ_96 f_98 z_107 r_109 (by first | omega | (simp only [Int32.toInt_toInt64]; omega) | decide | assumption)) rfl rfl ⟨Nat.le_of_ble_eq_true rfl, Nat.le_of_ble_eq_true rfl⟩ rfl hl.1 rfl (Nat.le_of_ble_eq_true rfl) dX12_scoreNow_70 ⟨Nat.le_of_ble_eq_true rfl, Nat.le_of_ble_eq_true rfl⟩) (fun r_111 hw_110 => ?_)
      refine lv_goto (tgt := 79) hx hb dX12_scoreNow_73 (by decide) ?_
      have hpo9 : Γ_96 (39, 0, 0) 0 = Γ (39, 0, 0) 0 ∧ (gex (Γ (59, 300, 0)) (p2.toInt) (p3.toInt + 1) → 0 < Γ (39, 0, 0) 14 → 0 < Γ_96 (39, 0, 0) 14) ∧ (Γ_96 (39, 0, 0) 11 = p2.toInt ∧ Γ_96 (39, 0, 0) 12 = p3.toInt) ∧ (Γ_96 (39, 0, 0) 15 = 0 ∨ Γ_96 (39, 0, 0) 15 = 1) ∧ (0 ≤ Γ_96 (39, 0, 0) 13 ∧ Γ_96 (39, 0, 0) 13 ≤ 42) ∧ (0 < Γ_96 (39, 0, 0) 13 → 0 < Γ_96 (39, 0, 0) 10) ∧ (Γ_96 (39, 0, 0) 15 = 1 → 0 < Γ_96 (39, 0, 0) 13 ∧ 0 < Γ_96 (39, 0, 0) 14) ∧ (Γ_96 (39, 0, 0) 15 = 1 → gex (Γ (59, 300, 0)) (p2.toInt) (p3.toInt + 1)) ∧ (∀ j : Nat, (j : Int) < Γ_96 (39, 0, 0) 13 → 0 ≤ Γ_96 (61, 42, 0) j ∧ Γ_96 (61, 42, 0) j ≤ 299) ∧ (∀ j : Nat, (j : Int) + 1 < Γ_96 (39, 0, 0) 13 → Γ_96 (61, 42, 0) j < Γ_96 (61, 42, 0) (j + 1)) := ⟨(by omega), (fun q9 q8 => by have q7 := (hw_65.2.1).mpr (by rw [hgr0 (59, 300, 0) (by decide), show Γ_53 (39, 0, 0) 11 = p2.toInt from by omega, show Γ_53 (39, 0, 0) 12 = p3.toInt from by omega]; exact q9); omega), (by omega), (by omega), (by omega), (by omega), (by omega), (fun q9 => by have q8 := (hw_65.2.1).mp (by omega); rw [hgr0 (59, 300, 0) (by decide), show Γ_53 (39, 0, 0) 11 = p2.toInt from by omega, show Γ_53 (39, 0, 0) 12 = p3.toInt from by omega] at q8; exact q8), (fun j9 q9 => by rw [hO]; exact hkb9 j9 (by omega)), (fun j9 q9 => by rw [hO]; exact hris9 j9 (by omega))⟩
      exact W.lret (v := r_111) hx hb hr (fun t ht hW => ⟨⟨_, (f_98, Γ_96), rfl, hpo9, by rw [ht]; exact hP, hI, hfr, hgr⟩, hS.F ht⟩) hS.2.2 dX12_scoreNow_79
  · have c_64 := hE_39.f c_64
    refine lv_ldc2 (v := (-1000000000)) hx hb hown (hta _ wk_925) dX12_scoreNow_27 ?_
    have hpo9 : Γ_53 (39, 0, 0) 0 = Γ (39, 0, 0) 0 ∧ (gex (Γ (59, 300, 0)) (p2.toInt) (p3.toInt + 1) → 0 < Γ (39, 0, 0) 14 → 0 < Γ_53 (39, 0, 0) 14) ∧ (Γ_53 (39, 0, 0) 11 = p2.toInt ∧ Γ_53 (39, 0, 0) 12 = p3.toInt) ∧ (Γ_53 (39, 0, 0) 15 = 0 ∨ Γ_53 (39, 0, 0) 15 = 1) ∧ (0 ≤ Γ_53 (39, 0, 0) 13 ∧ Γ_53 (39, 0, 0) 13 ≤ 42) ∧ (0 < Γ_53 (39, 0, 0) 13 → 0 < Γ_53 (39, 0, 0) 10) ∧ (Γ_53 (39, 0, 0) 15 = 1 → 0 < Γ_53 (39, 0, 0) 13 ∧ 0 < Γ_53 (39, 0, 0) 14) ∧ (Γ_53 (39, 0, 0) 15 = 1 → gex (Γ (59, 300, 0)) (p2.toInt) (p3.toInt + 1)) ∧ (∀ j : Nat, (j : Int) < Γ_53 (39, 0, 0) 13 → 0 ≤ Γ_53 (61, 42, 0) j ∧ Γ_53 (61, 42, 0) j ≤ 299) ∧ (∀ j : Nat, (j : Int) + 1 < Γ_53 (39, 0, 0) 13 → Γ_53 (61, 42, 0) j < Γ_53 (61, 42, 0) (j + 1)) := ⟨(by omega), (fun q9 q8 => by omega), (by omega), (by omega), (by omega), (by omega), (by omega), (fun q9 => by omega), (fun j9 q9 => by rw [hO]; exact hkb9 j9 (by omega)), (fun j9 q9 => by rw [hO]; exact hris9 j9 (by omega))⟩
    exact W.lret (v := (-1000000000)) hx hb hr (fun t ht hW => ⟨⟨_, (f_55, Γ_53), rfl, hpo9, by rw [ht]; exact hP, hI, hfr, hgr⟩, hS.F ht⟩) hS.2.2 dX12_scoreNow_30
set_option maxHeartbeats 4000000 in
set_option maxRecDepth 100000 in
theorem r_X12_own (l : Launch) (D : va_G) (cy : Nat → ClassId) (sz : Nat) (L : List Nat) (K : Nat → tk_K) (Γ : tk_G) (f : Nat → va_E) (o : Nat) (p0 : Int32) (p1 : Int32) (ho : tp_r L K 39 (0) 0 o) (htx : tx_ok (Γ (43, 8800, 0)) (Γ (45, 1056, 0)) (Γ (46, 22, 0)) (Γ (47, 6, 0)) (Γ (48, 22, 0)) (Γ (49, 22, 0)) (Γ (50, 22, 0)) (Γ (51, 22, 0)) (Γ (42, 3, 0))) (hcan : 0 ≤ p0.toInt ∧ p0.toInt < Γ (42, 3, 0) 1) (hrw : 0 ≤ p1.toInt ∧ p1.toInt ≤ 23) : Met l yX12_own (tl_w yX12_own cX12_own 4 (some .long)) ({ frames := 5, cells := 0, slots := 0, locals := 132 }) (va_Pc [.ref o, .int p0, .int p1] (tp_P D cy L K Γ f sz)) (va_Ql (fun (r : Int64) (u : (Nat → va_E) × tk_G) => u.2 (39, 0, 0) 0 = Γ (39, 0, 0) 0 ∧ (gex (Γ (59, 300, 0)) (Γ (49, 22, 0) (6 + p0.toInt).toNat) (Γ (50, 22, 0) (6 + p0.toInt).toNat + 1) → 0 < Γ (39, 0, 0) 14 → 0 < u.2 (39, 0, 0) 14) ∧ (u.2 (39, 0, 0) 11 = Γ (49, 22, 0) (6 + p0.toInt).toNat ∧ u.2 (39, 0, 0) 12 = Γ (50, 22, 0) (6 + p0.toInt).toNat) ∧ (u.2 (39, 0, 0) 15 = 0 ∨ u.2 (39, 0, 0) 15 = 1) ∧ (0 ≤ u.2 (39, 0, 0) 13 ∧ u.2 (39, 0, 0) 13 ≤ 42) ∧ (0 < u.2 (39, 0, 0) 13 → 0 < u.2 (39, 0, 0) 10) ∧ (u.2 (39, 0, 0) 15 = 1 → 0 < u.2 (39, 0, 0) 13 ∧ 0 < u.2 (39, 0, 0) 14) ∧ (u.2 (39, 0, 0) 15 = 1 → gex (Γ (59, 300, 0)) (Γ (49, 22, 0) (6 + p0.toInt).toNat) (Γ (50, 22, 0) (6 + p0.toInt).toNat + 1)) ∧ (∀ j : Nat, (j : Int) < u.2 (39, 0, 0) 13 → 0 ≤ u.2 (61, 42, 0) j ∧ u.2 (61, 42, 0) j ≤ 299) ∧ (∀ j : Nat, (j : Int) + 1 < u.2 (39, 0, 0) 13 → u.2 (61, 42, 0) j < u.2 (61, 42, 0) (j + 1))) (tp_BG D cy L K Γ f [39, 58, 57, 60, 61, 62, 63]) (tp_A L sz)) 0 0 (tp_A L sz) := by
  refine Met.ofW (cc := cX12_own) (maxL := 4) (ret := (some .long)) (by decide) rfl ?_
  intro p e s m args below meth c s₁ B hml hv
  obtain ⟨rfl, hsz, hP, hK, hL, hI, hN, hU⟩ := hv
  have hx := B.exec
  have hb := B.bytes
  have hr := B.returns
  have hta := tl_hta (atoms_spec (ws := tl_w yX12_own cX12_own 4 (some .long)) B.pre)
  have hown : s.vm.findClass RX12 = some m.cls := findClass_of_methodNamed B.named
  have hlocks := B.notSynchronized
  subst hsz
  have hI0 := hI
  generalize hAe : tp_A L s.heap.size = A
  have hA : ∀ q : Nat, s.heap.size ≤ q → A q := fun q h => by rw [← hAe]; exact Or.inr h
  have hAL : ∀ q ∈ L, A q := fun q h => by rw [← hAe]; exact Or.inl h
  have hAf : ∀ (H : Heap), s.heap.size ≤ H.size → ∀ q, tp_A L H.size q → A q := fun H h q hq => hq.elim (hAL q) (fun h2 => hA q (Nat.le_trans h h2))
  have hS : va_S A s.heap s.heap [] := va_S.rf
  have hD : va_D A (va_pl L f) := tp_D hL hAL
  have hfr : ∀ b, (K b).1 ∉ ([39, 58, 57, 60, 61, 62, 63] : List Nat) → f b = f b := fun _ _ => rfl
  have hgr : ∀ κ : tk_K, κ.1 ∉ ([39, 58, 57, 60, 61, 62, 63] : List Nat) → Γ κ = Γ κ := fun _ _ => rfl
  have hl := lv_entry ([.ref o, .int p0, .int p1]) (n := 4) (Nat.le_of_ble_eq_true rfl)
  rw [lg_entry_eq]
  generalize (lg_sl ([.ref o, .int p0, .int p1]) ++ List.replicate (4 - (lg_sl ([.ref o, .int p0, .int p1])).length) Slot.unset).toArray = ls at hl ⊢
  have hl : lv_has ls 4 [(0, .ref o), (1, .int p0), (2, .int p1)] := hl
  have htb := htx.1
  obtain ⟨hnc, htst, _, _, hbd, hgp, hwi⟩ := htx.2 (6 + p0.toInt) (by omega)
  refine lv_bipush (v := 6) hx hb dX12_own_0 (by decide) ?_
  refine lv_iload_n hx hb dX12_own_2 rfl (lv_at hl 1 rfl) ?_
  refine lv_iadd hx hb dX12_own_3 ?_
  refine lv_topi (fun z_1 ez_1 => ?_)
  try have iz_1 : z_1.toInt = (6 : Int) + p0.toInt := by rw [ez_1]; exact tl_addN 6 p0 rfl rfl (by omega) (by omega)
  refine lv_istore_n (lv' := [(3, .int z_1), (0, .ref o), (1, .int p0), (2, .int p1)]) hx hb dX12_own_4 rfl hl (by decide) rfl (fun ls hl => ?_)
  refine lv_aload_n hx hb dX12_own_5 rfl (lv_at hl 1 rfl) ?_
  refine lv_iload_n hx hb dX12_own_6 rfl (lv_at hl 2 rfl) ?_
  refine lv_iload_n hx hb dX12_own_7 rfl (lv_at hl 3 rfl) ?_
  refine lv_aload_n hx hb dX12_own_8 rfl (lv_at hl 1 rfl) ?_
  obtain ⟨r_3, v_4, q_5, hf_2, hr_6, hv_7⟩ := (show tp_o_M L K 0 0 (Γ (39, 0, 0)) (f o) from hI.at ho)
  refine tp_get (cy := cy) (ci := 12) (v := .ref (r_3 13)) (C := RX12) (T := TX12) (N := 49) hx hb hta inlX12 hown hK hP ho.1 hf_2 rfl 14 (by decide) (hta _ wk_163) (fun _ h9 => h9) rfl dX12_own_9 ?_
  refine lv_iload_n hx hb dX12_own_12 rfl (lv_at hl 0 rfl) ?_
  obtain ⟨g_16, hf_15, hg_17⟩ := (show tp_gi cy (22) (Γ (49, 22, 0)) (f (r_3 13)) from hI0.at (show tp_r L K 49 22 0 (r_3 13) from hr_6 13 (by decide)))
  have hn_18 : vp_in z_1 (22) := tl_in (by omega) (by omega)
  refine tp_iald (cy := cy) hx hb hK hP (show tp_r L K 49 22 0 (r_3 13) from hr_6 13 (by decide)).1 hf_15 hn_18 dX12_own_13 ?_
  refine lv_topi (fun z_19 ez_19 => ?_)
  have iz_19 : z_19.toInt = Γ (49, 22, 0) z_1.toInt.toNat := by rw [ez_19]; exact hg_17 _ (tp_pin hn_18)
  have kz_19 : z_19.toInt = Γ (49, 22, 0) (6 + p0.toInt).toNat := iz_19.trans (congrArg _ (by omega))
  refine lv_aload_n hx hb dX12_own_14 rfl (lv_at hl 1 rfl) ?_
  refine tp_get (cy := cy) (ci := 12) (v := .ref (r_3 14)) (C := RX12) (T := TX12) (N := 49) hx hb hta inlX12 hown hK hP ho.1 hf_2 rfl 15 (by decide) (hta _ wk_164) (fun _ h9 => h9) rfl dX12_own_15 ?_
  refine lv_iload_n hx hb dX12_own_18 rfl (lv_at hl 0 rfl) ?_
  obtain ⟨g_21, hf_20, hg_22⟩ := (show tp_gi cy (22) (Γ (50, 22, 0)) (f (r_3 14)) from hI0.at (show tp_r L K 50 22 0 (r_3 14) from hr_6 14 (by decide)))
  have hn_23 : vp_in z_1 (22) := tl_in (by omega) (by omega)
  refine tp_iald (cy := cy) hx hb hK hP (show tp_r L K 50 22 0 (r_3 14) from hr_6 14 (by decide)).1 hf_20 hn_23 dX12_own_19 ?_
  refine lv_topi (fun z_24 ez_24 => ?_)
  have iz_24 : z_24.toInt = Γ (50, 22, 0) z_1.toInt.toNat := by rw [ez_24]; exact hg_22 _ (tp_pin hn_23)
  have kz_24 : z_24.toInt = Γ (50, 22, 0) (6 + p0.toInt).toNat := iz_24.trans (congrArg _ (by omega))
  refine lv_aload_n hx hb dX12_own_20 rfl (lv_at hl 1 rfl) ?_
  refine tp_get (cy := cy) (ci := 12) (v := .ref (r_3 12)) (C := RX12) (T := TX12) (N := 49) hx hb hta inlX12 hown hK hP ho.1 hf_2 rfl 13 (by decide) (hta _ wk_162) (fun _ h9 => h9) rfl dX12_own_21 ?_
  refine lv_iload_n hx hb dX12_own_24 rfl (lv_at hl 0 rfl) ?_
  obtain ⟨g_26, hf_25, hg_27⟩ := (show tp_gi cy (22) (Γ (48, 22, 0)) (f (r_3 12)) from hI0.at (show tp_r L K 48 22 0 (r_3 12) from hr_6 12 (by decide)))
  have hn_28 : vp_in z_1 (22) := tl_in (by omega) (by omega)
  refine tp_iald (cy := cy) hx hb hK hP (show tp_r L K 48 22 0 (r_3 12) from hr_6 12 (by decide)).1 hf_25 hn_28 dX12_own_25 ?_
  refine lv_topi (fun z_29 ez_29 => ?_)
  have iz_29 : z_29.toInt = Γ (48, 22, 0) z_1.toInt.toNat := by rw [ez_29]; exact hg_27 _ (tp_pin hn_28)
  have kz_29 : z_29.toInt = Γ (48, 22, 0) (6 + p0.toInt).toNat := iz_29.trans (congrArg _ (by omega))
  refine tq_clR hS (hAf _ hS.1) (tq_rV (As := [.int p0, .int p1, .int z_19, .int z_24, .int z_29]) (rest := []) ⟨hx, hb, hml, hown, hta⟩ (tp_P.pre hK hN hL hU hI hP) (tp_recv hK hP ho.1 hf_2 rfl) lk_X12_437 (r_X12_scoreNow l D cy s.heap.size L K Γ f o p0 p1 z_19 z_24 z_29 (6 + p0.toInt) ho (by first | omega | (simp only [Int32.toInt_toInt64]; omega) | decide | assumption) (by first | omega | (simp only [Int32.toInt_toInt64]; omega) | decide | assumption) (by first | omega | (simp only [Int32.toInt_toInt64]; omega) | decide | assumption) (by first | omega | (simp only [Int32.toInt_toInt64]; omega) | decide | assumption) (by first | omega | (simp only [Int32.toInt_toInt64]; omega) | decide | assumption) (by first | omega | (simp only [Int32.toInt_toInt64]; omega) | decide | assumption) (by first | omega | (simp only [Int32.toInt_toInt64]; omega) | decide | assumption)) rfl rfl ⟨Nat.le_of_ble_eq_true rfl, Nat.le_of_ble_eq_true rfl⟩ rfl hl.1 rfl (Nat.le_of_ble_eq_true rfl) dX12_own_26 ⟨Nat.le_of_ble_eq_true rfl, Nat.le_of_ble_eq_true rfl⟩) (fun r_31 f_32 Γ_34 H locs hw_30 hP hI hc_33 hcg_35 hS => ?_)
  have hD : va_D A (va_pl L f_32) := tp_D hL hAL
  have hfr := tp_fr2 hfr hc_33 (by decide)
  have hgr : ∀ κ : tk_K, κ.1 ∉ ([39, 58, 57, 60, 61, 62, 63] : List Nat) → Γ_34 κ = Γ κ := tg_fr2 hgr hcg_35 (by decide)
  have hw_30 : Γ_34 (39, 0, 0) 0 = Γ (39, 0, 0) 0 ∧ (gex (Γ (59, 300, 0)) (z_19.toInt) (z_24.toInt + 1) → 0 < Γ (39, 0, 0) 14 → 0 < Γ_34 (39, 0, 0) 14) ∧ (Γ_34 (39, 0, 0) 11 = z_19.toInt ∧ Γ_34 (39, 0, 0) 12 = z_24.toInt) ∧ (Γ_34 (39, 0, 0) 15 = 0 ∨ Γ_34 (39, 0, 0) 15 = 1) ∧ (0 ≤ Γ_34 (39, 0, 0) 13 ∧ Γ_34 (39, 0, 0) 13 ≤ 42) ∧ (0 < Γ_34 (39, 0, 0) 13 → 0 < Γ_34 (39, 0, 0) 10) ∧ (Γ_34 (39, 0, 0) 15 = 1 → 0 < Γ_34 (39, 0, 0) 13 ∧ 0 < Γ_34 (39, 0, 0) 14) ∧ (Γ_34 (39, 0, 0) 15 = 1 → gex (Γ (59, 300, 0)) (z_19.toInt) (z_24.toInt + 1)) ∧ (∀ j : Nat, (j : Int) < Γ_34 (39, 0, 0) 13 → 0 ≤ Γ_34 (61, 42, 0) j ∧ Γ_34 (61, 42, 0) j ≤ 299) ∧ (∀ j : Nat, (j : Int) + 1 < Γ_34 (39, 0, 0) 13 → Γ_34 (61, 42, 0) j < Γ_34 (61, 42, 0) (j + 1)) := hw_30
  have how := hw_30
  rw [kz_19, kz_24] at how
  have hpo9 : Γ_34 (39, 0, 0) 0 = Γ (39, 0, 0) 0 ∧ (gex (Γ (59, 300, 0)) (Γ (49, 22, 0) (6 + p0.toInt).toNat) (Γ (50, 22, 0) (6 + p0.toInt).toNat + 1) → 0 < Γ (39, 0, 0) 14 → 0 < Γ_34 (39, 0, 0) 14) ∧ (Γ_34 (39, 0, 0) 11 = Γ (49, 22, 0) (6 + p0.toInt).toNat ∧ Γ_34 (39, 0, 0) 12 = Γ (50, 22, 0) (6 + p0.toInt).toNat) ∧ (Γ_34 (39, 0, 0) 15 = 0 ∨ Γ_34 (39, 0, 0) 15 = 1) ∧ (0 ≤ Γ_34 (39, 0, 0) 13 ∧ Γ_34 (39, 0, 0) 13 ≤ 42) ∧ (0 < Γ_34 (39, 0, 0) 13 → 0 < Γ_34 (39, 0, 0) 10) ∧ (Γ_34 (39, 0, 0) 15 = 1 → 0 < Γ_34 (39, 0, 0) 13 ∧ 0 < Γ_34 (39, 0, 0) 14) ∧ (Γ_34 (39, 0, 0) 15 = 1 → gex (Γ (59, 300, 0)) (Γ (49, 22, 0) (6 + p0.toInt).toNat) (Γ (50, 22, 0) (6 + p0.toInt).toNat + 1)) ∧ (∀ j : Nat, (j : Int) < Γ_34 (39, 0, 0) 13 → 0 ≤ Γ_34 (61, 42, 0) j ∧ Γ_34 (61, 42, 0) j ≤ 299) ∧ (∀ j : Nat, (j : Int) + 1 < Γ_34 (39, 0, 0) 13 → Γ_34 (61, 42, 0) j < Γ_34 (61, 42, 0) (j + 1)) := how
  exact W.lret (v := r_31) hx hb hr (fun t ht hW => ⟨⟨_, (f_32, Γ_34), rfl, hpo9, by rw [ht]; exact hP, hI, hfr, hgr⟩, hS.F ht⟩) hS.2.2 dX12_own_29

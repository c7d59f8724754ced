theorem dX4_has_0 : decode cX4_has 0 = .ok (.iload_n 1, 1) := by decide +kernel
theorem dX4_has_1 : decode cX4_has 1 = .ok (.ifCond .lt 15, 3) := by decide +kernel
theorem dX4_has_4 : decode cX4_has 4 = .ok (.iload_n 1, 1) := by decide +kernel
theorem dX4_has_5 : decode cX4_has 5 = .ok (.aload_n 0, 1) := by decide +kernel
theorem dX4_has_6 : decode cX4_has 6 = .ok (.getfield 26, 3) := by decide +kernel
theorem dX4_has_9 : decode cX4_has 9 = .ok (.if_icmp .ge 7, 3) := by decide +kernel
theorem dX4_has_12 : decode cX4_has 12 = .ok (.iconst 1, 1) := by decide +kernel
theorem dX4_has_13 : decode cX4_has 13 = .ok (.goto 4, 3) := by decide +kernel
theorem dX4_has_16 : decode cX4_has 16 = .ok (.iconst 0, 1) := by decide +kernel
theorem dX4_has_17 : decode cX4_has 17 = .ok (.ireturn, 1) := by decide +kernel
theorem wk_211 : Cond.fieldLink RX4 26 "ThinLine$Rows" "size" "I" ∈ tl_L := List.mem_filter.mpr ⟨lw_m1 (i := 44) rfl, rfl⟩
theorem dX4_put_0 : decode cX4_put 0 = .ok (.aload_n 0, 1) := by decide +kernel
theorem dX4_put_1 : decode cX4_put 1 = .ok (.iload_n 1, 1) := by decide +kernel
theorem dX4_put_2 : decode cX4_put 2 = .ok (.invokevirtual 37, 3) := by decide +kernel
theorem dX4_put_5 : decode cX4_put 5 = .ok (.ifCond .eq 10, 3) := by decide +kernel
theorem dX4_put_8 : decode cX4_put 8 = .ok (.iload_n 2, 1) := by decide +kernel
theorem dX4_put_9 : decode cX4_put 9 = .ok (.invokestatic 41, 3) := by decide +kernel
theorem dX4_put_12 : decode cX4_put 12 = .ok (.ifCond .ne 6, 3) := by decide +kernel
theorem dX4_put_15 : decode cX4_put 15 = .ok (.ldc 30, 2) := by decide +kernel
theorem dX4_put_17 : decode cX4_put 17 = .ok (.ireturn, 1) := by decide +kernel
theorem dX4_put_18 : decode cX4_put 18 = .ok (.aload_n 0, 1) := by decide +kernel
theorem dX4_put_19 : decode cX4_put 19 = .ok (.getfield 23, 3) := by decide +kernel
theorem dX4_put_22 : decode cX4_put 22 = .ok (.iload_n 1, 1) := by decide +kernel
theorem dX4_put_23 : decode cX4_put 23 = .ok (.aaload, 1) := by decide +kernel
theorem dX4_put_24 : decode cX4_put 24 = .ok (.iload_n 2, 1) := by decide +kernel
theorem dX4_put_25 : decode cX4_put 25 = .ok (.iaload, 1) := by decide +kernel
theorem dX4_put_26 : decode cX4_put 26 = .ok (.istore 4, 2) := by decide +kernel
theorem dX4_put_28 : decode cX4_put 28 = .ok (.aload_n 0, 1) := by decide +kernel
theorem dX4_put_29 : decode cX4_put 29 = .ok (.getfield 23, 3) := by decide +kernel
theorem dX4_put_32 : decode cX4_put 32 = .ok (.iload_n 1, 1) := by decide +kernel
theorem dX4_put_33 : decode cX4_put 33 = .ok (.aaload, 1) := by decide +kernel
theorem dX4_put_34 : decode cX4_put 34 = .ok (.iload_n 2, 1) := by decide +kernel
theorem dX4_put_35 : decode cX4_put 35 = .ok (.iload_n 3, 1) := by decide +kernel
theorem dX4_put_36 : decode cX4_put 36 = .ok (.iastore, 1) := by decide +kernel
theorem dX4_put_37 : decode cX4_put 37 = .ok (.aload_n 0, 1) := by decide +kernel
theorem dX4_put_38 : decode cX4_put 38 = .ok (.dup, 1) := by decide +kernel
theorem dX4_put_39 : decode cX4_put 39 = .ok (.getfield 44, 3) := by decide +kernel
theorem dX4_put_42 : decode cX4_put 42 = .ok (.iload_n 3, 1) := by decide +kernel
theorem dX4_put_43 : decode cX4_put 43 = .ok (.ldc 30, 2) := by decide +kernel
theorem dX4_put_45 : decode cX4_put 45 = .ok (.if_icmp .ne 7, 3) := by decide +kernel
theorem dX4_put_48 : decode cX4_put 48 = .ok (.iconst 0, 1) := by decide +kernel
theorem dX4_put_49 : decode cX4_put 49 = .ok (.goto 4, 3) := by decide +kernel
theorem dX4_put_52 : decode cX4_put 52 = .ok (.iconst 1, 1) := by decide +kernel
theorem dX4_put_53 : decode cX4_put 53 = .ok (.iload 4, 2) := by decide +kernel
theorem dX4_put_55 : decode cX4_put 55 = .ok (.ldc 30, 2) := by decide +kernel
theorem dX4_put_57 : decode cX4_put 57 = .ok (.if_icmp .ne 7, 3) := by decide +kernel
theorem dX4_put_60 : decode cX4_put 60 = .ok (.iconst 0, 1) := by decide +kernel
theorem dX4_put_61 : decode cX4_put 61 = .ok (.goto 4, 3) := by decide +kernel
theorem dX4_put_64 : decode cX4_put 64 = .ok (.iconst 1, 1) := by decide +kernel
theorem dX4_put_65 : decode cX4_put 65 = .ok (.isub, 1) := by decide +kernel
theorem dX4_put_66 : decode cX4_put 66 = .ok (.iadd, 1) := by decide +kernel
theorem dX4_put_67 : decode cX4_put 67 = .ok (.putfield 44, 3) := by decide +kernel
theorem dX4_put_70 : decode cX4_put 70 = .ok (.iload 4, 2) := by decide +kernel
theorem dX4_put_72 : decode cX4_put 72 = .ok (.ireturn, 1) := by decide +kernel
theorem wk_60 : Cond.initialized RX4 ∈ tl_L := List.mem_filter.mpr ⟨lw_m1 (i := 3) rfl, rfl⟩
theorem wk_77 : Cond.fieldLink RX4 23 "ThinLine$Rows" "raw" "[[I" ∈ tl_L := List.mem_filter.mpr ⟨lw_m1 (i := 57) rfl, rfl⟩
theorem wk_212 : Cond.constant RX4 30 (-1000000) ∈ tl_L := List.mem_filter.mpr ⟨lw_m2 (i := 209) rfl, rfl⟩
theorem wk_231 : Cond.instanceMethod yX4_has ∈ tl_L := List.mem_filter.mpr ⟨lw_m2 (i := 222) rfl, rfl⟩
theorem wk_232 : Cond.selects RX4 yX4_has yX4_has ∈ tl_L := List.mem_filter.mpr ⟨lw_s1 (i := 1) (q := (yX4_has, 6)) rfl, rfl⟩
theorem wk_233 : Cond.code yX4_has cX4_has 2 (some .boolean) ∈ tl_L := List.mem_filter.mpr ⟨lw_m2 (i := 223) rfl, rfl⟩
theorem wk_240 : Cond.fieldLink RX4 44 "ThinLine$Rows" "numbers" "I" ∈ tl_L := List.mem_filter.mpr ⟨lw_m1 (i := 46) rfl, rfl⟩
theorem wk_241 : Cond.methodLink RX4 37 yX4_has ∈ tl_L := List.mem_filter.mpr ⟨lw_m2 (i := 232) rfl, rfl⟩
theorem lk_X4_37 : tl_kV RX4 37 RX4 yX4_has cX4_has 2 (some .boolean) 1 := ⟨wk_233, wk_241, wk_231, wk_232, wk_60, ⟨by decide +kernel, by decide +kernel, by decide +kernel⟩⟩
theorem lk_X4_41 : tl_kSN RX4 41 yX11_isColour "ThinLine" cX11_isColour 1 (some .boolean) 1 75 := ⟨wk_236, by decide +kernel, wk_235, wk_2, ⟨by decide +kernel, by decide +kernel, by decide +kernel⟩⟩
set_option maxHeartbeats 4000000 in
set_option maxRecDepth 100000 in
theorem t_X4_has (l : Launch) (D : va_G) (cy : Nat → ClassId) (sz : Nat) (L : List Nat) (K : Nat → tk_K) (Γ : tk_G) (f : Nat → va_E) (w : Nat) (o : Nat) (p0 : Int32) (ho : tp_r L K 3 (0) w o) : Met l yX4_has (tl_w yX4_has cX4_has 2 (some .boolean)) ({ frames := 0, cells := 0, slots := 0, locals := 0 }) (va_Pc [.ref o, .int p0] (tp_P D cy L K Γ f sz)) (vp_Si (fun r : Int32 => tl_E r (0 ≤ p0.toInt ∧ p0.toInt < Γ (3, 0, w) 0) 1 0)) 0 0 (fun _ => False) := by
  refine Met.ofW (cc := cX4_has) (maxL := 2) (ret := (some .boolean)) (by decide) rfl ?_
  intro p e s m args below meth c s₁ B hml hv
  obtain ⟨rfl, hsz, hP, hK, hL, hI, hN, hU⟩ := hv
  have hx := B.exec
  have hb := B.bytes
  have hr := B.returns
  have hta := tl_hta (atoms_spec (ws := tl_w yX4_has cX4_has 2 (some .boolean)) B.pre)
  have hown : s.vm.findClass RX4 = some m.cls := findClass_of_methodNamed B.named
  have hlocks := B.notSynchronized
  subst hsz
  have hI0 := hI
  have hl := lv_entry ([.ref o, .int p0]) (n := 2) (Nat.le_of_ble_eq_true rfl)
  rw [lg_entry_eq]
  generalize (lg_sl ([.ref o, .int p0]) ++ List.replicate (2 - (lg_sl ([.ref o, .int p0])).length) Slot.unset).toArray = ls at hl ⊢
  have hl : lv_has ls 2 [(0, .ref o), (1, .int p0)] := hl
  refine lv_iload_n hx hb dX4_has_0 rfl (lv_at hl 1 rfl) ?_
  refine lv_if_lt (tgt := 16) hx hb dX4_has_1 (by decide) (fun c_1 => ?_) (fun c_1 => ?_)
  · have c_1 : p0.toInt < (0 : Int) := tl_lt c_1
    refine lv_iconst (v := 0) hx hb dX4_has_16 (by decide) ?_
    exact W.zret (ty := .boolean) (v := 0) hx hb hr rfl (fun t ht hW => ⟨_, rfl, (Or.inr ⟨by omega, rfl⟩), ht⟩) (fun q h => by cases h) dX4_has_17
  · have c_1 : (0 : Int) ≤ p0.toInt := tl_nlt c_1
    refine lv_iload_n hx hb dX4_has_4 rfl (lv_at hl 1 rfl) ?_
    refine lv_aload_n hx hb dX4_has_5 rfl (lv_at hl 0 rfl) ?_
    obtain ⟨x_3, x_4, x_5, x_6, x_7, x_8, hf_2, hx_3, hx_5, hx_6, hx_7, hx_8⟩ := (show tp_o_ROWS L K (0) w (Γ (3, 0, w)) (f o) from hI0.at ho)
    refine tp_get (cy := cy) (ci := 4) (v := .int x_3) (C := RX4) (T := TX4) (N := 6) hx hb hta inlX4 hown hK hP ho.1 hf_2 rfl 0 (by decide) (hta _ wk_211) (fun _ h9 => h9) rfl dX4_has_6 ?_
    refine lv_icmp_ge (tgt := 16) hx hb dX4_has_9 (by decide) (fun c_9 => ?_) (fun c_9 => ?_)
    · have c_9 : x_3.toInt ≤ p0.toInt := tl_le c_9
      refine lv_iconst (v := 0) hx hb dX4_has_16 (by decide) ?_
      exact W.zret (ty := .boolean) (v := 0) hx hb hr rfl (fun t ht hW => ⟨_, rfl, (Or.inr ⟨by omega, rfl⟩), ht⟩) (fun q h => by cases h) dX4_has_17
    · have c_9 : p0.toInt < x_3.toInt := tl_nle c_9
      refine lv_iconst (v := 1) hx hb dX4_has_12 (by decide) ?_
      refine lv_goto (tgt := 17) hx hb dX4_has_13 (by decide) ?_
      exact W.zret (ty := .boolean) (v := 1) hx hb hr rfl (fun t ht hW => ⟨_, rfl, (Or.inl ⟨by omega, rfl⟩), ht⟩) (fun q h => by cases h) dX4_has_17
set_option maxHeartbeats 4000000 in
set_option maxRecDepth 100000 in
theorem t_X4_put (l : Launch) (D : va_G) (cy : Nat → ClassId) (sz : Nat) (L : List Nat) (K : Nat → tk_K) (Γ : tk_G) (f : Nat → va_E) (w : Nat) (o : Nat) (p0 : Int32) (p1 : Int32) (p2 : Int32) (ho : tp_r L K 3 (0) w o) : Met l yX4_put (tl_w yX4_put cX4_put 5 (some .int)) ({ frames := 2, cells := 0, slots := 0, locals := 42 }) (va_Pc [.ref o, .int p0, .int p1, .int p2] (tp_P D cy L K Γ f sz)) (va_Qi (fun (r : Int32) (u : Nat → va_E) => True) (tp_B D cy L K Γ f [3, 6]) (tp_A L sz)) 0 0 (tp_A L sz) := by
  refine Met.ofW (cc := cX4_put) (maxL := 5) (ret := (some .int)) (by decide) rfl ?_
  intro p e s m args below meth c s₁ B hml hv
  obtain ⟨rfl, hsz, hP, hK, hL, hI, hN, hU⟩ := hv
  have hx := B.exec
  have hb := B.bytes
  have hr := B.returns
  have hta := tl_hta (atoms_spec (ws := tl_w yX4_put cX4_put 5 (some .int)) B.pre)
  have hown : s.vm.findClass RX4 = some m.cls := findClass_of_methodNamed B.named
  have hlocks := B.notSynchronized
  subst hsz
  have hI0 := hI
  generalize hAe : tp_A L s.heap.size = A
  have hA : ∀ q : Nat, s.heap.size ≤ q → A q := fun q h => by rw [← hAe]; exact Or.inr h
  have hAL : ∀ q ∈ L, A q := fun q h => by rw [← hAe]; exact Or.inl h
  have hAf : ∀ (H : Heap), s.heap.size ≤ H.size → ∀ q, tp_A L H.size q → A q := fun H h q hq => hq.elim (hAL q) (fun h2 => hA q (Nat.le_trans h h2))
  have hS : va_S A s.heap s.heap [] := va_S.rf
  have hD : va_D A (va_pl L f) := tp_D hL hAL
  have hfr : ∀ b, (K b).1 ∉ ([3, 6] : List Nat) → f b = f b := fun _ _ => rfl
  have hl := lv_entry ([.ref o, .int p0, .int p1, .int p2]) (n := 5) (Nat.le_of_ble_eq_true rfl)
  rw [lg_entry_eq]
  generalize (lg_sl ([.ref o, .int p0, .int p1, .int p2]) ++ List.replicate (5 - (lg_sl ([.ref o, .int p0, .int p1, .int p2])).length) Slot.unset).toArray = ls at hl ⊢
  have hl : lv_has ls 5 [(0, .ref o), (1, .int p0), (2, .int p1), (3, .int p2)] := hl
  refine lv_aload_n hx hb dX4_put_0 rfl (lv_at hl 0 rfl) ?_
  refine lv_iload_n hx hb dX4_put_1 rfl (lv_at hl 1 rfl) ?_
  obtain ⟨x_2, x_3, x_4, x_5, x_6, x_7, hf_1, hx_2, hx_4, hx_5, hx_6, hx_7⟩ := (show tp_o_ROWS L K (0) w (Γ (3, 0, w)) (f o) from hI.at ho)
  refine tl_si (tq_rV (As := [.int p0]) (rest := []) ⟨hx, hb, hml, hown, hta⟩ (tp_P.pre hK hN hL hU hI hP) (tp_recv hK hP ho.1 hf_1 rfl) lk_X4_37 (t_X4_has l D cy s.heap.size L K Γ f w o p0 ho) rfl rfl ⟨Nat.le_of_ble_eq_true rfl, Nat.le_of_ble_eq_true rfl⟩ rfl hl.1 rfl (Nat.le_of_ble_eq_true rfl) dX4_put_2 ⟨Nat.le_of_ble_eq_true rfl, Nat.le_of_ble_eq_true rfl⟩) (fun r_9 hw_8 => ?_)
  have hw_8 : tl_E r_9 (0 ≤ p0.toInt ∧ p0.toInt < Γ (3, 0, w) 0) 1 0 := hw_8
  refine lv_if_eq (tgt := 15) hx hb dX4_put_5 (by decide) (fun c_10 => ?_) (fun c_10 => ?_)
  · have c_10 := hw_8.f c_10
    refine lv_ldc (v := (-1000000)) hx hb hown (hta _ wk_212) dX4_put_15 ?_
    exact W.iret (v := (-1000000)) hx hb hr (fun t ht hW => ⟨⟨_, f, rfl, trivial, by rw [ht]; exact hP, hI, hfr⟩, hS.F ht⟩) hS.2.2 dX4_put_17
  · have c_10 := hw_8.t c_10
    refine lv_iload_n hx hb dX4_put_8 rfl (lv_at hl 2 rfl) ?_
    refine tl_si (tq_rSN hN (As := [.int p1]) (rest := []) ⟨hx, hb, hml, hown, hta⟩ (tp_P.pre hK hN hL hU hI hP) lk_X4_41 (t_X11_isColour l D cy s.heap.size L K Γ f p1 ) rfl rfl ⟨Nat.le_of_ble_eq_true rfl, Nat.le_of_ble_eq_true rfl⟩ rfl hl.1 rfl (Nat.le_of_ble_eq_true rfl) dX4_put_9 ⟨Nat.le_of_ble_eq_true rfl, Nat.le_of_ble_eq_true rfl⟩) (fun r_12 hw_11 => ?_)
    have hw_11 : tl_E r_12 (0 ≤ p1.toInt ∧ p1.toInt ≤ 299) 1 0 := hw_11
    refine lv_if_ne (tgt := 18) hx hb dX4_put_12 (by decide) (fun c_13 => ?_) (fun c_13 => ?_)
    · have c_13 := hw_11.t c_13
      refine lv_aload_n hx hb dX4_put_18 rfl (lv_at hl 0 rfl) ?_
      refine tp_get (cy := cy) (ci := 4) (v := .ref x_7) (C := RX4) (T := TX4) (N := 6) hx hb hta inlX4 hown hK hP ho.1 hf_1 rfl 5 (by decide) (hta _ wk_77) (fun _ h9 => h9) rfl dX4_put_19 ?_
      refine lv_iload_n hx hb dX4_put_22 rfl (lv_at hl 1 rfl) ?_
      obtain ⟨g_15, hf_14, hg_16⟩ := (show tp_aa cy L K (24) w (f x_7) from hI0.at hx_7)
      have hn_17 : vp_in p0 (24) := tl_in (by omega) (by omega)
      obtain ⟨b_18, eb_18, hb_18⟩ := hg_16 _ (tp_pin hn_17)
      refine tp_aldA (cy := cy) hx hb hK hP hx_7.1 hf_14 hn_17 dX4_put_23 ?_
      refine W.eq (g2 := F0 m 24 ls ([.ref b_18])) (by rw [eb_18]; rfl) ?_
      refine lv_iload_n hx hb dX4_put_24 rfl (lv_at hl 2 rfl) ?_
      obtain ⟨g_20, hf_19, hg_21⟩ := (show tp_ai cy 6 (300) (f b_18) from hI.at hb_18)
      have hn_22 : vp_in p1 (300) := tl_in (by omega) (by omega)
      refine tp_iald (cy := cy) hx hb hK hP hb_18.1 hf_19 hn_22 dX4_put_25 ?_
      refine lv_topi (fun z_23 ez_23 => ?_)
      refine lv_istore (lv' := [(4, .int z_23), (0, .ref o), (1, .int p0), (2, .int p1), (3, .int p2)]) hx hb dX4_put_26 hl (by decide) rfl (fun ls hl => ?_)
      refine lv_aload_n hx hb dX4_put_28 rfl (lv_at hl 1 rfl) ?_
      refine tp_get (cy := cy) (ci := 4) (v := .ref x_7) (C := RX4) (T := TX4) (N := 6) hx hb hta inlX4 hown hK hP ho.1 hf_1 rfl 5 (by decide) (hta _ wk_77) (fun _ h9 => h9) rfl dX4_put_29 ?_
      refine lv_iload_n hx hb dX4_put_32 rfl (lv_at hl 2 rfl) ?_
      have hn_24 : vp_in p0 (24) := tl_in (by omega) (by omega)
      obtain ⟨b_25, eb_25, hb_25⟩ := hg_16 _ (tp_pin hn_24)
      refine tp_aldA (cy := cy) hx hb hK hP hx_7.1 hf_14 hn_24 dX4_put_33 ?_
      refine W.eq (g2 := F0 m 34 ls ([.ref b_25])) (by rw [eb_25]; rfl) ?_
      refine lv_iload_n hx hb dX4_put_34 rfl (lv_at hl 3 rfl) ?_
      refine lv_iload_n hx hb dX4_put_35 rfl (lv_at hl 4 rfl) ?_
      obtain ⟨g_27, hf_26, hg_28⟩ := (show tp_ai cy 6 (300) (f b_25) from hI.at hb_25)
      have hn_29 : vp_in p1 (300) := tl_in (by omega) (by omega)
      have hI9 : tp_I cy L K Γ (va_up f b_25 (.inl (cy 0, 300, .inl (upd g_27 p1.toNatClampNeg p2)))) := hI.set hb_25 (show tp_ai cy 6 (300) _ from ⟨_, rfl, tp_pi_upd hg_28 trivial⟩)
      have hfr9 : ∀ b, (K b).1 ∉ ([3, 6] : List Nat) → va_up f b_25 (.inl (cy 0, 300, .inl (upd g_27 p1.toNatClampNeg p2))) b = f b := tp_fr hfr hb_25 (by decide)
      refine tp_iast (cy := cy) hx hb hK hP hD hS hb_25.1 hf_26 hn_29 dX4_put_36 (fun H locs hP hD hS => ?_)
      have hP : va_P D vwCl (va_pl L (va_up f b_25 (.inl (cy 0, 300, .inl (upd g_27 p1.toNatClampNeg p2))))) H := hP
      generalize hfe : va_up f b_25 (.inl (cy 0, 300, .inl (upd g_27 p1.toNatClampNeg p2))) = f_30 at hP hI9 hfr9
      have hD : va_D A (va_pl L f_30) := tp_D hL hAL
      have hf_31 := (show f_30 o = _ from by rw [← hfe, va_up_ne _ _ (tp_ne ho hb_25 (by decide))]).trans hf_1
      have hf_32 : f_30 b_25 = .inl (cy 0, 300, .inl (upd g_27 p1.toNatClampNeg p2)) := by rw [← hfe]; exact va_up_self _ _ _
      clear hfe
      have hI := hI9
      have hfr := hfr9
      clear hI9 hfr9
      refine lv_aload_n hx hb dX4_put_37 rfl (lv_at hl 1 rfl) ?_
      refine lv_dup hx hb dX4_put_38 rfl ?_
      refine tp_get (cy := cy) (ci := 4) (v := .int x_3) (C := RX4) (T := TX4) (N := 6) hx hb hta inlX4 hown hK hP ho.1 hf_31 rfl 1 (by decide) (hta _ wk_240) (fun _ h9 => h9) rfl dX4_put_39 ?_
      refine lv_iload_n hx hb dX4_put_42 rfl (lv_at hl 4 rfl) ?_
      refine lv_ldc (v := (-1000000)) hx hb hown (hta _ wk_212) dX4_put_43 ?_
      refine lv_icmp_ne (tgt := 52) hx hb dX4_put_45 (by decide) (fun c_33 => ?_) (fun c_33 => ?_)
      · have c_33 : ¬ p2.toInt = (-1000000 : Int) := tl_neq c_33
        refine lv_iconst (v := 1) hx hb dX4_put_52 (by decide) ?_
        refine lv_iload hx hb dX4_put_53 (lv_at hl 0 rfl) ?_
        refine lv_ldc (v := (-1000000)) hx hb hown (hta _ wk_212) dX4_put_55 ?_
        refine lv_icmp_ne (tgt := 64) hx hb dX4_put_57 (by decide) (fun c_34 => ?_) (fun c_34 => ?_)
        · have c_34 : ¬ z_23.toInt = (-1000000 : Int) := tl_neq c_34
          refine lv_iconst (v := 1) hx hb dX4_put_64 (by decide) ?_
          refine lv_isub hx hb dX4_put_65 ?_
          refine lv_topi (fun z_35 ez_35 => ?_)
          obtain rfl : z_35 = (0 : Int32) := ez_35.trans (by decide)
          refine lv_iadd hx hb dX4_put_66 ?_
          refine lv_topi (fun z_36 ez_36 => ?_)
          try have iz_36 : z_36.toInt = x_3.toInt + (0 : Int) := by rw [ez_36]; exact tl_addN x_3 0 rfl rfl (by omega) (by omega)
          have hI9 : tp_I cy L K Γ (va_up f_30 o (.inr (4, [.int x_2, .int z_36, .ref x_4, .ref x_5, .ref x_6, .ref x_7]))) := hI.set ho (show tp_o_ROWS L K (0) w (Γ (3, 0, w)) _ from ⟨x_2, z_36, x_4, x_5, x_6, x_7, rfl, (show 0 ≤ x_2.toInt ∧ x_2.toInt ≤ 24 ∧ x_2.toInt = (Γ (3, 0, w)) 0 from by omega), hx_4, hx_5, hx_6, hx_7⟩)
          have hfr9 : ∀ b, (K b).1 ∉ ([3, 6] : List Nat) → va_up f_30 o (.inr (4, [.int x_2, .int z_36, .ref x_4, .ref x_5, .ref x_6, .ref x_7])) b = f b := tp_fr hfr ho (by decide)
          refine tp_put (cy := cy) (ci := 4) (v := .int z_36) (ty := tyX4 1) (C := RX4) (T := TX4) (N := 6) hx hb hta inlX4 tyX4 tyX4_ok nmX4 hown hK hP hD hS ho.1 hf_31 rfl 1 (by decide) (hta _ wk_240) (fun _ h9 => h9) rfl (tyX4_ok 1 (by decide)) rfl rfl (Nat.le_of_ble_eq_true rfl) dX4_put_67 (fun H locs hP hD hS => ?_)
          have hP : va_P D vwCl (va_pl L (va_up f_30 o (.inr (4, [.int x_2, .int z_36, .ref x_4, .ref x_5, .ref x_6, .ref x_7])))) H := hP
          generalize hfe : va_up f_30 o (.inr (4, [.int x_2, .int z_36, .ref x_4, .ref x_5, .ref x_6, .ref x_7])) = f_37 at hP hI9 hfr9
          have hD : va_D A (va_pl L f_37) := tp_D hL hAL
          have hf_38 : f_37 o = .inr (4, [.int x_2, .int z_36, .ref x_4, .ref x_5, .ref x_6, .ref x_7]) := by rw [← hfe]; exact va_up_self _ _ _
          clear hfe
          have hI := hI9
          have hfr := hfr9
          clear hI9 hfr9
          refine lv_iload hx hb dX4_put_70 (lv_at hl 0 rfl) ?_
          exact W.iret (v := z_23) hx hb hr (fun t ht hW => ⟨⟨_, f_37, rfl, trivial, by rw [ht]; exact hP, hI, hfr⟩, hS.F ht⟩) hS.2.2 dX4_put_72
        · have c_34 : z_23.toInt = (-1000000 : Int) := tl_eq c_34
          refine lv_iconst (v := 0) hx hb dX4_put_60 (by decide) ?_
          refine lv_goto (tgt := 65) hx hb dX4_put_61 (by decide) ?_
          refine lv_isub hx hb dX4_put_65 ?_
          refine lv_topi (fun z_39 ez_39 => ?_)
          obtain rfl : z_39 = (1 : Int32) := ez_39.trans (by decide)
          refine lv_iadd hx hb dX4_put_66 ?_
          refine lv_topi (fun z_40 ez_40 => ?_)
          try have iz_40 : z_40.toInt = x_3.toInt + (1 : Int) := by rw [ez_40]; exact tl_addN x_3 1 rfl rfl (by omega) (by omega)
          have hI9 : tp_I cy L K Γ (va_up f_30 o (.inr (4, [.int x_2, .int z_40, .ref x_4, .ref x_5, .ref x_6, .ref x_7]))) := hI.set ho (show tp_o_ROWS L K (0) w (Γ (3, 0, w)) _ from ⟨x_2, z_40, x_4, x_5, x_6, x_7, rfl, (show 0 ≤ x_2.toInt ∧ x_2.toInt ≤ 24 ∧ x_2.toInt = (Γ (3, 0, w)) 0 from by omega), hx_4, hx_5, hx_6, hx_7⟩)
          have hfr9 : ∀ b, (K b).1 ∉ ([3, 6] : List Nat) → va_up f_30 o (.inr (4, [.int x_2, .int z_40, .ref x_4, .ref x_5, .ref x_6, .ref x_7])) b = f b := tp_fr hfr ho (by decide)
          refine tp_put (cy := cy) (ci := 4) (v := .int z_40) (ty := tyX4 1) (C := RX4) (T := TX4) (N := 6) hx hb hta inlX4 tyX4 tyX4_ok nmX4 hown hK hP hD hS ho.1 hf_31 rfl 1 (by decide) (hta _ wk_240) (fun _ h9 => h9) rfl (tyX4_ok 1 (by decide)) rfl rfl (Nat.le_of_ble_eq_true rfl) dX4_put_67 (fun H locs hP hD hS => ?_)
          have hP : va_P D vwCl (va_pl L (va_up f_30 o (.inr (4, [.int x_2, .int z_40, .ref x_4, .ref x_5, .ref x_6, .ref x_7])))) H := hP
          generalize hfe : va_up f_30 o (.inr (4, [.int x_2, .int z_40, .ref x_4, .ref x_5, .ref x_6, .ref x_7])) = f_41 at hP hI9 hfr9
          have hD : va_D A (va_pl L f_41) := tp_D hL hAL
          have hf_42 : f_41 o = .inr (4, [.int x_2, .int z_40, .ref x_4, .ref x_5, .ref x_6, .ref x_7]) := by rw [← hfe]; exact va_up_self _ _ _
          clear hfe
          have hI := hI9
          have hfr := hfr9
          clear hI9 hfr9
          refine lv_iload hx hb dX4_put_70 (lv_at hl 0 rfl) ?_
          exact W.iret (v := z_23) hx hb hr (fun t ht hW => ⟨⟨_, f_41, rfl, trivial, by rw [ht]; exact hP, hI, hfr⟩, hS.F ht⟩) hS.2.2 dX4_put_72
      · have c_33 : p2.toInt = (-1000000 : Int) := tl_eq c_33
        refine lv_iconst (v := 0) hx hb dX4_put_48 (by decide) ?_
        refine lv_goto (tgt := 53) hx hb dX4_put_49 (by decide) ?_
        refine lv_iload hx hb dX4_put_53 (lv_at hl 0 rfl) ?_
        refine lv_ldc (v := (-1000000)) hx hb hown (hta _ wk_212) dX4_put_55 ?_
        refine lv_icmp_ne (tgt := 64) hx hb dX4_put_57 (by decide) (fun c_43 => ?_) (fun c_43 => ?_)
        · have c_43 : ¬ z_23.toInt = (-1000000 : Int) := tl_neq c_43
          refine lv_iconst (v := 1) hx hb dX4_put_64 (by decide) ?_
          refine lv_isub hx hb dX4_put_65 ?_
          refine lv_topi (fun z_44 ez_44 => ?_)
          obtain rfl : z_44 = ((-1) : Int32) := ez_44.trans (by decide)
          refine lv_iadd hx hb dX4_put_66 ?_
          refine lv_topi (fun z_45 ez_45 => ?_)
          try have iz_45 : z_45.toInt = x_3.toInt + (-1 : Int) := by rw [ez_45]; exact tl_addN x_3 (-1) rfl rfl (by omega) (by omega)
          have hI9 : tp_I cy L K Γ (va_up f_30 o (.inr (4, [.int x_2, .int z_45, .ref x_4, .ref x_5, .ref x_6, .ref x_7]))) := hI.set ho (show tp_o_ROWS L K (0) w (Γ (3, 0, w)) _ from ⟨x_2, z_45, x_4, x_5, x_6, x_7, rfl, (show 0 ≤ x_2.toInt ∧ x_2.toInt ≤ 24 ∧ x_2.toInt = (Γ (3, 0, w)) 0 from by omega), hx_4, hx_5, hx_6, hx_7⟩)
          have hfr9 : ∀ b, (K b).1 ∉ ([3, 6] : List Nat) → va_up f_30 o (.inr (4, [.int x_2, .int z_45, .ref x_4, .ref x_5, .ref x_6, .ref x_7])) b = f b := tp_fr hfr ho (by decide)
          refine tp_put (cy := cy) (ci := 4) (v := .int z_45) (ty := tyX4 1) (C := RX4) (T := TX4) (N := 6) hx hb hta inlX4 tyX4 tyX4_ok nmX4 hown hK hP hD hS ho.1 hf_31 rfl 1 (by decide) (hta _ wk_240) (fun _ h9 => h9) rfl (tyX4_ok 1 (by decide)) rfl rfl (Nat.le_of_ble_eq_true rfl) dX4_put_67 (fun H locs hP hD hS => ?_)
          have hP : va_P D vwCl (va_pl L (va_up f_30 o (.inr (4, [.int x_2, .int z_45, .ref x_4, .ref x_5, .ref x_6, .ref x_7])))) H := hP
          generalize hfe : va_up f_30 o (.inr (4, [.int x_2, .int z_45, .ref x_4, .ref x_5, .ref x_6, .ref x_7])) = f_46 at hP hI9 hfr9
          have hD : va_D A (va_pl L f_46) := tp_D hL hAL
          have hf_47 : f_46 o = .inr (4, [.int x_2, .int z_45, .ref x_4, .ref x_5, .ref x_6, .ref x_7]) := by rw [← hfe]; exact va_up_self _ _ _
          clear hfe
          have hI := hI9
          have hfr := hfr9
          clear hI9 hfr9
          refine lv_iload hx hb dX4_put_70 (lv_at hl 0 rfl) ?_
          exact W.iret (v := z_23) hx hb hr (fun t ht hW => ⟨⟨_, f_46, rfl, trivial, by rw [ht]; exact hP, hI, hfr⟩, hS.F ht⟩) hS.2.2 dX4_put_72
        · have c_43 : z_23.toInt = (-1000000 : Int) := tl_eq c_43
          refine lv_iconst (v := 0) hx hb dX4_put_60 (by decide) ?_
          refine lv_goto (tgt := 65) hx hb dX4_put_61 (by decide) ?_
          refine lv_isub hx hb dX4_put_65 ?_
          refine lv_topi (fun z_48 ez_48 => ?_)
          obtain rfl : z_48 = (0 : Int32) := ez_48.trans (by decide)
          refine lv_iadd hx hb dX4_put_66 ?_
          refine lv_topi (fun z_49 ez_49 => ?_)
          try have iz_49 : z_49.toInt = x_3.toInt + (0 : Int) := by rw [ez_49]; exact tl_addN x_3 0 rfl rfl (by omega) (by omega)
          have hI9 : tp_I cy L K Γ (va_up f_30 o (.inr (4, [.int x_2, .int z_49, .ref x_4, .ref x_5, .ref x_6, .ref x_7]))) := hI.set ho (show tp_o_ROWS L K (0) w (Γ (3, 0, w)) _ from ⟨x_2, z_49, x_4, x_5, x_6, x_7, rfl, (show 0 ≤ x_2.toInt ∧ x_2.toInt ≤ 24 ∧ x_2.toInt = (Γ (3, 0, w)) 0 from by omega), hx_4, hx_5, hx_6, hx_7⟩)
          have hfr9 : ∀ b, (K b).1 ∉ ([3, 6] : List Nat) → va_up f_30 o (.inr (4, [.int x_2, .int z_49, .ref x_4, .ref x_5, .ref x_6, .ref x_7])) b = f b := tp_fr hfr ho (by decide)
          refine tp_put (cy := cy) (ci := 4) (v := .int z_49) (ty := tyX4 1) (C := RX4) (T := TX4) (N := 6) hx hb hta inlX4 tyX4 tyX4_ok nmX4 hown hK hP hD hS ho.1 hf_31 rfl 1 (by decide) (hta _ wk_240) (fun _ h9 => h9) rfl (tyX4_ok 1 (by decide)) rfl rfl (Nat.le_of_ble_eq_true rfl) dX4_put_67 (fun H locs hP hD hS => ?_)
          have hP : va_P D vwCl (va_pl L (va_up f_30 o (.inr (4, [.int x_2, .int z_49, .ref x_4, .ref x_5, .ref x_6, .ref x_7])))) H := hP
          generalize hfe : va_up f_30 o (.inr (4, [.int x_2, .int z_49, .ref x_4, .ref x_5, .ref x_6, .ref x_7])) = f_50 at hP hI9 hfr9
          have hD : va_D A (va_pl L f_50) := tp_D hL hAL
          have hf_51 : f_50 o = .inr (4, [.int x_2, .int z_49, .ref x_4, .ref x_5, .ref x_6, .ref x_7]) := by rw [← hfe]; exact va_up_self _ _ _
          clear hfe
          have hI := hI9
          have hfr := hfr9
          clear hI9 hfr9
          refine lv_iload hx hb dX4_put_70 (lv_at hl 0 rfl) ?_
          exact W.iret (v := z_23) hx hb hr (fun t ht hW => ⟨⟨_, f_50, rfl, trivial, by rw [ht]; exact hP, hI, hfr⟩, hS.F ht⟩) hS.2.2 dX4_put_72
    · have c_13 := hw_11.f c_13
      refine lv_ldc (v := (-1000000)) hx hb hown (hta _ wk_212) dX4_put_15 ?_
      exact W.iret (v := (-1000000)) hx hb hr (fun t ht hW => ⟨⟨_, f, rfl, trivial, by rw [ht]; exact hP, hI, hfr⟩, hS.F ht⟩) hS.2.2 dX4_put_17

theorem dX11_image_0 : decode cX11_image 0 = .ok (.iload_n 1, 1) := by decide +kernel
theorem dX11_image_1 : decode cX11_image 1 = .ok (.iconst 0, 1) := by decide +kernel
theorem dX11_image_2 : decode cX11_image 2 = .ok (.iconst 3, 1) := by decide +kernel
theorem dX11_image_3 : decode cX11_image 3 = .ok (.invokestatic 105, 3) := by decide +kernel
theorem dX11_image_6 : decode cX11_image 6 = .ok (.ifCond .ne 5, 3) := by decide +kernel
theorem dX11_image_9 : decode cX11_image 9 = .ok (.iconst (-1), 1) := by decide +kernel
theorem dX11_image_10 : decode cX11_image 10 = .ok (.ireturn, 1) := by decide +kernel
theorem dX11_image_11 : decode cX11_image 11 = .ok (.aload_n 0, 1) := by decide +kernel
theorem dX11_image_12 : decode cX11_image 12 = .ok (.getfield 16, 3) := by decide +kernel
theorem dX11_image_15 : decode cX11_image 15 = .ok (.iload_n 1, 1) := by decide +kernel
theorem dX11_image_16 : decode cX11_image 16 = .ok (.aaload, 1) := by decide +kernel
theorem dX11_image_17 : decode cX11_image 17 = .ok (.ifnonnull 16, 3) := by decide +kernel
theorem dX11_image_20 : decode cX11_image 20 = .ok (.aload_n 0, 1) := by decide +kernel
theorem dX11_image_21 : decode cX11_image 21 = .ok (.getfield 16, 3) := by decide +kernel
theorem dX11_image_24 : decode cX11_image 24 = .ok (.iload_n 1, 1) := by decide +kernel
theorem dX11_image_25 : decode cX11_image 25 = .ok (.new 7, 3) := by decide +kernel
theorem dX11_image_28 : decode cX11_image 28 = .ok (.dup, 1) := by decide +kernel
theorem dX11_image_29 : decode cX11_image 29 = .ok (.invokespecial 9, 3) := by decide +kernel
theorem dX11_image_32 : decode cX11_image 32 = .ok (.aastore, 1) := by decide +kernel
theorem dX11_image_33 : decode cX11_image 33 = .ok (.aload_n 0, 1) := by decide +kernel
theorem dX11_image_34 : decode cX11_image 34 = .ok (.getfield 16, 3) := by decide +kernel
theorem dX11_image_37 : decode cX11_image 37 = .ok (.iload_n 1, 1) := by decide +kernel
theorem dX11_image_38 : decode cX11_image 38 = .ok (.aaload, 1) := by decide +kernel
theorem dX11_image_39 : decode cX11_image 39 = .ok (.aload_n 0, 1) := by decide +kernel
theorem dX11_image_40 : decode cX11_image 40 = .ok (.getfield 10, 3) := by decide +kernel
theorem dX11_image_43 : decode cX11_image 43 = .ok (.invokevirtual 491, 3) := by decide +kernel
theorem dX11_image_46 : decode cX11_image 46 = .ok (.aload_n 0, 1) := by decide +kernel
theorem dX11_image_47 : decode cX11_image 47 = .ok (.getfield 10, 3) := by decide +kernel
theorem dX11_image_50 : decode cX11_image 50 = .ok (.getfield 109, 3) := by decide +kernel
theorem dX11_image_53 : decode cX11_image 53 = .ok (.getfield 339, 3) := by decide +kernel
theorem dX11_image_56 : decode cX11_image 56 = .ok (.ireturn, 1) := by decide +kernel
def tm_z0 (Γ : tk_G) (w : Nat) : tk_G := fun κ => if κ.2.2 = w then (fun _ => 0) else Γ κ
theorem tm_z0_s {Γ : tk_G} {k n w i : Nat} : tm_z0 Γ w (k, n, w) i = 0 := by
  unfold tm_z0
  rw [if_pos rfl]
theorem tm_z0_n {Γ : tk_G} {κ : tk_K} {w : Nat} (h : ¬ κ.2.2 = w) : tm_z0 Γ w κ = Γ κ := if_neg h
def tm_img (Γ : tk_G) (k : Nat) : tk_G := tm_copy (if Γ (12, 4, 0) k = 0 then tg (tm_z0 Γ (k + 1)) (12, 4, 0) k 1 else Γ) (k + 1) 0
set_option maxHeartbeats 4000000 in
set_option maxRecDepth 100000 in
theorem t_X11_image (l : Launch) (D : va_G) (cy : Nat → ClassId) (sz : Nat) (L : List Nat) (K : Nat → tk_K) (Γ : tk_G) (f : Nat → va_E) (o : Nat) (p0 : Int32) (ho : tp_r L K 0 (0) 0 o) (hfree : ∀ j : Nat, Γ (12, 4, 0) j = 0 → ∀ a ∈ L, ¬ (K a).2.2 = j + 1) : Met l yX11_image (tl_w yX11_image cX11_image 2 (some .int)) ({ frames := 3, cells := 40, slots := 8199, locals := 83 }) (va_Pc [.ref o, .int p0] (tp_P D cy L K Γ f sz)) (va_Qi (fun (r : Int32) (u : tx_S) => r.toInt = (if 0 ≤ p0.toInt ∧ p0.toInt ≤ 3 then tm_img Γ p0.toInt.toNat (3, 0, 0) 0 else -1) ∧ ((0 ≤ p0.toInt ∧ p0.toInt ≤ 3) ∨ ∀ a ∈ u.1, a ∈ L)) (tp_BX D cy L K (if 0 ≤ p0.toInt ∧ p0.toInt ≤ 3 then tm_img Γ p0.toInt.toNat else Γ) sz (p0.toInt.toNat + 1)) (tp_A L sz)) 40 8199 (tp_A L sz) := by
  refine Met.ofW (cc := cX11_image) (maxL := 2) (ret := (some .int)) (by decide) rfl ?_
  intro p e s m args below meth c s₁ B hml hv
  obtain ⟨rfl, hsz, hP, hK, hL, hI, hN, hU⟩ := hv
  have hx := B.exec
  have hb := B.bytes
  have hr := B.returns
  have hta := tl_hta (atoms_spec (ws := tl_w yX11_image cX11_image 2 (some .int)) B.pre)
  have hown : s.vm.findClass RX11 = some m.cls := findClass_of_methodNamed B.named
  have hlocks := B.notSynchronized
  subst hsz
  have hI0 := hI
  generalize hAe : tp_A L s.heap.size = A
  have hA : ∀ q : Nat, s.heap.size ≤ q → A q := fun q h => by rw [← hAe]; exact Or.inr h
  have hAL : ∀ q ∈ L, A q := fun q h => by rw [← hAe]; exact Or.inl h
  have hAf : ∀ (H : Heap), s.heap.size ≤ H.size → ∀ q, tp_A L H.size q → A q := fun H h q hq => hq.elim (hAL q) (fun h2 => hA q (Nat.le_trans h h2))
  have hS : va_S A s.heap s.heap [] := va_S.rf
  have hD : va_D A (va_pl L f) := tp_D hL hAL
  have hfr : ∀ b, (K b).1 ∉ ([1, 2, 3, 4, 6, 7, 8, 9, 10, 11, 12] : List Nat) → f b = f b := fun _ _ => rfl
  have hA9 : ∀ q, A q → q ∈ L ∨ s.heap.size ≤ q := fun q h => by rw [← hAe] at h; exact h
  have hmo : ∀ k n w a, tp_r L K k n w a → tp_r L K k n w a := fun _ _ _ _ h => h
  have hnw : ∀ a ∈ L, a ∈ L ∨ (s.heap.size ≤ a ∧ (K a).2.2 = (p0.toInt.toNat + 1)) := fun _ h => Or.inl h
  have hl := lv_entry ([.ref o, .int p0]) (n := 2) (Nat.le_of_ble_eq_true rfl)
  rw [lg_entry_eq]
  generalize (lg_sl ([.ref o, .int p0]) ++ List.replicate (2 - (lg_sl ([.ref o, .int p0])).length) Slot.unset).toArray = ls at hl ⊢
  have hl : lv_has ls 2 [(0, .ref o), (1, .int p0)] := hl
  refine lv_iload_n hx hb dX11_image_0 rfl (lv_at hl 1 rfl) ?_
  refine lv_iconst (v := 0) hx hb dX11_image_1 (by decide) ?_
  refine lv_iconst (v := 3) hx hb dX11_image_2 (by decide) ?_
  refine tl_si (tq_rS (As := [.int p0, .int 0, .int 3]) (rest := []) ⟨hx, hb, hml, hown, hta⟩ (tp_P.pre hK hN hL hU hI hP) lk_X11_105 (t_X11_isIn l D cy s.heap.size L K Γ f p0 0 3 ) rfl rfl ⟨Nat.le_of_ble_eq_true rfl, Nat.le_of_ble_eq_true rfl⟩ rfl hl.1 rfl (Nat.le_of_ble_eq_true rfl) dX11_image_3 ⟨Nat.le_of_ble_eq_true rfl, Nat.le_of_ble_eq_true rfl⟩) (fun r_2 hw_1 => ?_)
  have hw_1 : tl_E r_2 ((0 : Int) ≤ p0.toInt ∧ p0.toInt ≤ (3 : Int)) 1 0 := hw_1
  refine lv_if_ne (tgt := 11) hx hb dX11_image_6 (by decide) (fun c_3 => ?_) (fun c_3 => ?_)
  · have c_3 := hw_1.t c_3
    refine lv_aload_n hx hb dX11_image_11 rfl (lv_at hl 0 rfl) ?_
    obtain ⟨x_5, x_6, x_7, x_8, x_9, x_10, x_11, x_12, x_13, x_14, x_15, x_16, x_17, x_18, x_19, x_20, hf_4, hx_5, hx_6, hx_7, hx_8, hx_9, hx_10, hx_11, hx_12, hx_13, hx_14, hx_15, hx_16, hx_17, hx_18, hx_19, hx_20⟩ := (show tp_o_X L K (0) 0 (Γ (0, 0, 0)) (f o) from hI0.at ho)
    refine tp_get (cy := cy) (ci := 11) (v := .ref x_6) (C := RX11) (T := TX11) (N := 16) hx hb hta inlX11 hown hK hP ho.1 hf_4 rfl 1 (by decide) (hta _ wk_16) (fun _ h9 => h9) rfl dX11_image_12 ?_
    refine lv_iload_n hx hb dX11_image_15 rfl (lv_at hl 1 rfl) ?_
    obtain ⟨g_22, hf_21, hg_23⟩ := (show tp_ab cy L K (4) (Γ (12, 4, 0)) (f x_6) from hI.at hx_6)
    have hn_24 : vp_in p0 (4) := tl_in (by omega) (by omega)
    refine tp_aldq (cy := cy) (t0 := 4) rfl hx hb hK hP hx_6.1 hf_21 hn_24 dX11_image_16 ?_
    cases q_25 : g_22 p0.toNatClampNeg with
    | none =>
      have iq_25 : Γ (12, 4, 0) p0.toInt.toNat = 0 := (hg_23 _ (tp_pin hn_24)).2 q_25
      refine W.eq (g2 := F0 m 17 ls ([.null])) (by rfl) ?_
      refine lv_ifnonnullN hx hb dX11_image_17 ?_
      refine lv_aload_n hx hb dX11_image_20 rfl (lv_at hl 0 rfl) ?_
      refine tp_get (cy := cy) (ci := 11) (v := .ref x_6) (C := RX11) (T := TX11) (N := 16) hx hb hta inlX11 hown hK hP ho.1 hf_4 rfl 1 (by decide) (hta _ wk_16) (fun _ h9 => h9) rfl dX11_image_21 ?_
      refine lv_iload_n hx hb dX11_image_24 rfl (lv_at hl 1 rfl) ?_
      refine va_new (ci := 0) (fs := [.int 0, .null, .null, .null, .null, .null, .null, .null, .int 0]) (C := RX0) (T := TX0) (N := 9) hx hb hta inlX0 tyX0 tyX0_ok hown (hta _ wk_12) (hta _ wk_13) (hta _ wk_14) hK hP hD hS hA rfl nf_X0 (Nat.le_of_ble_eq_true rfl) (Nat.le_of_ble_eq_true rfl) dX11_image_25 (fun q_27 H hP hD hS => ?_)
      refine W.widen (k := 1) (n := 9) (Nat.le_of_ble_eq_true rfl) (Nat.le_of_ble_eq_true rfl) ?_
      refine lv_dup hx hb dX11_image_28 rfl ?_
      have hq0 : Γ (12, 4, 0) p0.toInt.toNat = 0 := by assumption
      obtain ⟨Γ_28, eΓ_28⟩ : ∃ y : tk_G, y = tm_z0 Γ (p0.toInt.toNat + 1) := ⟨_, rfl⟩
      have hI : tp_I cy L K Γ_28 f := hI.irr (fun a ha => by rw [eΓ_28]; exact tm_z0_n (hfree _ hq0 a ha))
      have hz : ∀ (k n i : Nat), Γ_28 (k, n, p0.toInt.toNat + 1) i = 0 := by intro k n i; rw [eΓ_28]; exact tm_z0_s
      refine tx_cv _ _ hP hD hS hA (tl_rIN (As := []) (rest := [.ref q_27, .int p0, .ref x_6]) ⟨hx, hb, hml, hown, hta⟩ hK hN (tx_Pr hP) (tx_Dr hD) lk_X11_9 (c_X0_init l D cy H.size q_27) rfl rfl ⟨Nat.le_of_ble_eq_true rfl, Nat.le_of_ble_eq_true rfl⟩ rfl hl.1 rfl (Nat.le_of_ble_eq_true rfl) dX11_image_29 ⟨Nat.le_of_ble_eq_true rfl, Nat.le_of_ble_eq_true rfl⟩) (fun u_29 H locs _ hP hD hS => ?_)
      refine W.widen (k := 40) (n := 8199) (Nat.le_of_ble_eq_true rfl) (Nat.le_of_ble_eq_true rfl) ?_
      refine tx_go (ns := [(q_27, .inr (0, [.int 0, .ref (u_29.1 0), .ref (u_29.1 1), .ref (u_29.1 6), .ref (u_29.1 8), .ref (u_29.1 10), .ref (u_29.1 12), .ref (u_29.1 14), .int 0]), (1, 0, (p0.toInt.toNat + 1))), ((u_29.1 0), .inl (cy 0, 4, .inl (fun _ => 0)), (2, 4, (p0.toInt.toNat + 1))), ((u_29.1 1), .inr (4, [.int 0, .int 0, .ref (u_29.1 2), .ref (u_29.1 3), .ref (u_29.1 4), .ref (u_29.1 5)]), (3, 0, (p0.toInt.toNat + 1))), ((u_29.1 2), .inl (cy 0, 24, .inl (fun _ => 0)), (4, 24, (p0.toInt.toNat + 1))), ((u_29.1 3), .inl (cy 0, 24, .inl (fun _ => 0)), (4, 24, (p0.toInt.toNat + 1))), ((u_29.1 4), .inl (cy 0, 24, .inl (fun _ => 0)), (4, 24, (p0.toInt.toNat + 1))), ((u_29.1 5), .inl (cy 6, 24, .inr (.inr (.inr (.inr (fun i => if i < 24 then some (u_29.2 i) else none))))), (5, 24, (p0.toInt.toNat + 1))), ((u_29.2 0), .inl (cy 0, 300, .inl (fun _ => 0)), (6, 300, (p0.toInt.toNat + 1))), ((u_29.2 1), .inl (cy 0, 300, .inl (fun _ => 0)), (6, 300, (p0.toInt.toNat + 1))), ((u_29.2 2), .inl (cy 0, 300, .inl (fun _ => 0)), (6, 300, (p0.toInt.toNat + 1))), ((u_29.2 3), .inl (cy 0, 300, .inl (fun _ => 0)), (6, 300, (p0.toInt.toNat + 1))), ((u_29.2 4), .inl (cy 0, 300, .inl (fun _ => 0)), (6, 300, (p0.toInt.toNat + 1))), ((u_29.2 5), .inl (cy 0, 300, .inl (fun _ => 0)), (6, 300, (p0.toInt.toNat + 1))), ((u_29.2 6), .inl (cy 0, 300, .inl (fun _ => 0)), (6, 300, (p0.toInt.toNat + 1))), ((u_29.2 7), .inl (cy 0, 300, .inl (fun _ => 0)), (6, 300, (p0.toInt.toNat + 1))), ((u_29.2 8), .inl (cy 0, 300, .inl (fun _ => 0)), (6, 300, (p0.toInt.toNat + 1))), ((u_29.2 9), .inl (cy 0, 300, .inl (fun _ => 0)), (6, 300, (p0.toInt.toNat + 1))), ((u_29.2 10), .inl (cy 0, 300, .inl (fun _ => 0)), (6, 300, (p0.toInt.toNat + 1))), ((u_29.2 11), .inl (cy 0, 300, .inl (fun _ => 0)), (6, 300, (p0.toInt.toNat + 1))), ((u_29.2 12), .inl (cy 0, 300, .inl (fun _ => 0)), (6, 300, (p0.toInt.toNat + 1))), ((u_29.2 13), .inl (cy 0, 300, .inl (fun _ => 0)), (6, 300, (p0.toInt.toNat + 1))), ((u_29.2 14), .inl (cy 0, 300, .inl (fun _ => 0)), (6, 300, (p0.toInt.toNat + 1))), ((u_29.2 15), .inl (cy 0, 300, .inl (fun _ => 0)), (6, 300, (p0.toInt.toNat + 1))), ((u_29.2 16), .inl (cy 0, 300, .inl (fun _ => 0)), (6, 300, (p0.toInt.toNat + 1))), ((u_29.2 17), .inl (cy 0, 300, .inl (fun _ => 0)), (6, 300, (p0.toInt.toNat + 1))), ((u_29.2 18), .inl (cy 0, 300, .inl (fun _ => 0)), (6, 300, (p0.toInt.toNat + 1))), ((u_29.2 19), .inl (cy 0, 300, .inl (fun _ => 0)), (6, 300, (p0.toInt.toNat + 1))), ((u_29.2 20), .inl (cy 0, 300, .inl (fun _ => 0)), (6, 300, (p0.toInt.toNat + 1))), ((u_29.2 21), .inl (cy 0, 300, .inl (fun _ => 0)), (6, 300, (p0.toInt.toNat + 1))), ((u_29.2 22), .inl (cy 0, 300, .inl (fun _ => 0)), (6, 300, (p0.toInt.toNat + 1))), ((u_29.2 23), .inl (cy 0, 300, .inl (fun _ => 0)), (6, 300, (p0.toInt.toNat + 1))), ((u_29.1 6), .inr (6, [.int 40, .ref (u_29.1 7), .int 0]), (7, 40, (p0.toInt.toNat + 1))), ((u_29.1 7), .inl (cy 0, 160, .inl (fun _ => 0)), (8, 4 * 40, (p0.toInt.toNat + 1))), ((u_29.1 8), .inr (6, [.int 60, .ref (u_29.1 9), .int 0]), (7, 60, (p0.toInt.toNat + 1))), ((u_29.1 9), .inl (cy 0, 240, .inl (fun _ => 0)), (8, 4 * 60, (p0.toInt.toNat + 1))), ((u_29.1 10), .inr (6, [.int 10, .ref (u_29.1 11), .int 0]), (7, 10, (p0.toInt.toNat + 1))), ((u_29.1 11), .inl (cy 0, 40, .inl (fun _ => 0)), (8, 4 * 10, (p0.toInt.toNat + 1))), ((u_29.1 12), .inr (6, [.int 8, .ref (u_29.1 13), .int 0]), (9, 8, (p0.toInt.toNat + 1))), ((u_29.1 13), .inl (cy 0, 32, .inl (fun _ => 0)), (10, 4 * 8, (p0.toInt.toNat + 1))), ((u_29.1 14), .inl (cy 0, 400, .inl (fun _ => 0)), (11, 400, (p0.toInt.toNat + 1)))]) (w9 := (p0.toInt.toNat + 1)) hP hD hI hL hU hAL (List.forall_mem_cons.mpr ⟨rfl, (List.forall_mem_cons.mpr ⟨rfl, (List.forall_mem_cons.mpr ⟨rfl, (List.forall_mem_cons.mpr ⟨rfl, (List.forall_mem_cons.mpr ⟨rfl, (List.forall_mem_cons.mpr ⟨rfl, (List.forall_mem_cons.mpr ⟨rfl, (List.forall_mem_cons.mpr ⟨rfl, (List.forall_mem_cons.mpr ⟨rfl, (List.forall_mem_cons.mpr ⟨rfl, (List.forall_mem_cons.mpr ⟨rfl, (List.forall_mem_cons.mpr ⟨rfl, (List.forall_mem_cons.mpr ⟨rfl, (List.forall_mem_cons.mpr ⟨rfl, (List.forall_mem_cons.mpr ⟨rfl, (List.forall_mem_cons.mpr ⟨rfl, (List.forall_mem_cons.mpr ⟨rfl, (List.forall_mem_cons.mpr ⟨rfl, (List.forall_mem_cons.mpr ⟨rfl, (List.forall_mem_cons.mpr ⟨rfl, (List.forall_mem_cons.mpr ⟨rfl, (List.forall_mem_cons.mpr ⟨rfl, (List.forall_mem_cons.mpr ⟨rfl, (List.forall_mem_cons.mpr ⟨rfl, (List.forall_mem_cons.mpr ⟨rfl, (List.forall_mem_cons.mpr ⟨rfl, (List.forall_mem_cons.mpr ⟨rfl, (List.forall_mem_cons.mpr ⟨rfl, (List.forall_mem_cons.mpr ⟨rfl, (List.forall_mem_cons.mpr ⟨rfl, (List.forall_mem_cons.mpr ⟨rfl, (List.forall_mem_cons.mpr ⟨rfl, (List.forall_mem_cons.mpr ⟨rfl, (List.forall_mem_cons.mpr ⟨rfl, (List.forall_mem_cons.mpr ⟨rfl, (List.forall_mem_cons.mpr ⟨rfl, (List.forall_mem_cons.mpr ⟨rfl, (List.forall_mem_cons.mpr ⟨rfl, (List.forall_mem_cons.mpr ⟨rfl, (List.forall_mem_cons.mpr ⟨rfl, (fun _ h9 => by cases h9)⟩)⟩)⟩)⟩)⟩)⟩)⟩)⟩)⟩)⟩)⟩)⟩)⟩)⟩)⟩)⟩)⟩)⟩)⟩)⟩)⟩)⟩)⟩)⟩)⟩)⟩)⟩)⟩)⟩)⟩)⟩)⟩)⟩)⟩)⟩)⟩)⟩)⟩)⟩)⟩) hA9 (fun hns9 q hq a ha _ e9 => hfree _ hq0 a ha ((congrArg (fun z : tk_K => z.2.2) e9).trans (hns9 q hq))) (fun _ => tx_h2 _ (show (([(1, 0), (2, 4), (3, 0), (4, 24), (4, 24), (4, 24), (5, 24), (6, 300), (6, 300), (6, 300), (6, 300), (6, 300), (6, 300), (6, 300), (6, 300), (6, 300), (6, 300), (6, 300), (6, 300), (6, 300), (6, 300), (6, 300), (6, 300), (6, 300), (6, 300), (6, 300), (6, 300), (6, 300), (6, 300), (6, 300), (6, 300), (7, 40), (8, 4 * 40), (7, 60), (8, 4 * 60), (7, 10), (8, 4 * 10), (9, 8), (10, 4 * 8), (11, 400)] : List (Nat × Nat)).filter (fun p => tk_t p.1)).Nodup from by decide)) (fun hr => (List.forall_mem_cons.mpr ⟨⟨0, (u_29.1 0), (u_29.1 1), (u_29.1 6), (u_29.1 8), (u_29.1 10), (u_29.1 12), (u_29.1 14), 0, rfl, (hz _ _ 0).symm, hr _ (List.mem_of_getElem? (i := 1) rfl), hr _ (List.mem_of_getElem? (i := 2) rfl), hr _ (List.mem_of_getElem? (i := 31) rfl), hr _ (List.mem_of_getElem? (i := 33) rfl), hr _ (List.mem_of_getElem? (i := 35) rfl), hr _ (List.mem_of_getElem? (i := 37) rfl), hr _ (List.mem_of_getElem? (i := 39) rfl), (show 0 ≤ (0 : Int32).toInt ∧ (0 : Int32).toInt ≤ ((400 : Nat) : Int) from ⟨by decide, by decide⟩)⟩, (List.forall_mem_cons.mpr ⟨⟨_, rfl, fun j9 _ => (hz _ _ j9).symm⟩, (List.forall_mem_cons.mpr ⟨⟨0, 0, (u_29.1 2), (u_29.1 3), (u_29.1 4), (u_29.1 5), rfl, (show 0 ≤ (0 : Int32).toInt ∧ (0 : Int32).toInt ≤ ((24 : Nat) : Int) ∧ (0 : Int32).toInt = _ from ⟨by decide, by decide, (hz _ _ 0).symm⟩), hr _ (List.mem_of_getElem? (i := 3) rfl), hr _ (List.mem_of_getElem? (i := 4) rfl), hr _ (List.mem_of_getElem? (i := 5) rfl), hr _ (List.mem_of_getElem? (i := 6) rfl)⟩, (List.forall_mem_cons.mpr ⟨⟨_, rfl, fun _ _ => by first | trivial | decide⟩, (List.forall_mem_cons.mpr ⟨⟨_, rfl, fun _ _ => by first | trivial | decide⟩, (List.forall_mem_cons.mpr ⟨⟨_, rfl, fun _ _ => by first | trivial | decide⟩, (List.forall_mem_cons.mpr ⟨⟨_, rfl, fun j9 h7 => match j9, h7 with | 0, _ => ⟨_, rfl, hr _ (List.mem_of_getElem? (i := 7) rfl)⟩ | 1, _ => ⟨_, rfl, hr _ (List.mem_of_getElem? (i := 8) rfl)⟩ | 2, _ => ⟨_, rfl, hr _ (List.mem_of_getElem? (i := 9) rfl)⟩ | 3, _ => ⟨_, rfl, hr _ (List.mem_of_getElem? (i := 10) rfl)⟩ | 4, _ => ⟨_, rfl, hr _ (List.mem_of_getElem? (i := 11) rfl)⟩ | 5, _ => ⟨_, rfl, hr _ (List.mem_of_getElem? (i := 12) rfl)⟩ | 6, _ => ⟨_, rfl, hr _ (List.mem_of_getElem? (i := 13) rfl)⟩ | 7, _ => ⟨_, rfl, hr _ (List.mem_of_getElem? (i := 14) rfl)⟩ | 8, _ => ⟨_, rfl, hr _ (List.mem_of_getElem? (i := 15) rfl)⟩ | 9, _ => ⟨_, rfl, hr _ (List.mem_of_getElem? (i := 16) rfl)⟩ | 10, _ => ⟨_, rfl, hr _ (List.mem_of_getElem? (i := 17) rfl)⟩ | 11, _ => ⟨_, rfl, hr _ (List.mem_of_getElem? (i := 18) rfl)⟩ | 12, _ => ⟨_, rfl, hr _ (List.mem_of_getElem? (i := 19) rfl)⟩ | 13, _ => ⟨_, rfl, hr _ (List.mem_of_getElem? (i := 20) rfl)⟩ | 14, _ => ⟨_, rfl, hr _ (List.mem_of_getElem? (i := 21) rfl)⟩ | 15, _ => ⟨_, rfl, hr _ (List.mem_of_getElem? (i := 22) rfl)⟩ | 16, _ => ⟨_, rfl, hr _ (List.mem_of_getElem? (i := 23) rfl)⟩ | 17, _ => ⟨_, rfl, hr _ (List.mem_of_getElem? (i := 24) rfl)⟩ | 18, _ => ⟨_, rfl, hr _ (List.mem_of_getElem? (i := 25) rfl)⟩ | 19, _ => ⟨_, rfl, hr _ (List.mem_of_getElem? (i := 26) rfl)⟩ | 20, _ => ⟨_, rfl, hr _ (List.mem_of_getElem? (i := 27) rfl)⟩ | 21, _ => ⟨_, rfl, hr _ (List.mem_of_getElem? (i := 28) rfl)⟩ | 22, _ => ⟨_, rfl, hr _ (List.mem_of_getElem? (i := 29) rfl)⟩ | 23, _ => ⟨_, rfl, hr _ (List.mem_of_getElem? (i := 30) rfl)⟩ | _ + 24, h6 => absurd h6 (Nat.not_lt.mpr (Nat.le_add_left 24 _))⟩, (List.forall_mem_cons.mpr ⟨⟨_, rfl, fun _ _ => by first | trivial | decide⟩, (List.forall_mem_cons.mpr ⟨⟨_, rfl, fun _ _ => by first | trivial | decide⟩, (List.forall_mem_cons.mpr ⟨⟨_, rfl, fun _ _ => by first | trivial | decide⟩, (List.forall_mem_cons.mpr ⟨⟨_, rfl, fun _ _ => by first | trivial | decide⟩, (List.forall_mem_cons.mpr ⟨⟨_, rfl, fun _ _ => by first | trivial | decide⟩, (List.forall_mem_cons.mpr ⟨⟨_, rfl, fun _ _ => by first | trivial | decide⟩, (List.forall_mem_cons.mpr ⟨⟨_, rfl, fun _ _ => by first | trivial | decide⟩, (List.forall_mem_cons.mpr ⟨⟨_, rfl, fun _ _ => by first | trivial | decide⟩, (List.forall_mem_cons.mpr ⟨⟨_, rfl, fun _ _ => by first | trivial | decide⟩, (List.forall_mem_cons.mpr ⟨⟨_, rfl, fun _ _ => by first | trivial | decide⟩, (List.forall_mem_cons.mpr ⟨⟨_, rfl, fun _ _ => by first | trivial | decide⟩, (List.forall_mem_cons.mpr ⟨⟨_, rfl, fun _ _ => by first | trivial | decide⟩, (List.forall_mem_cons.mpr ⟨⟨_, rfl, fun _ _ => by first | trivial | decide⟩, (List.forall_mem_cons.mpr ⟨⟨_, rfl, fun _ _ => by first | trivial | decide⟩, (List.forall_mem_cons.mpr ⟨⟨_, rfl, fun _ _ => by first | trivial | decide⟩, (List.forall_mem_cons.mpr ⟨⟨_, rfl, fun _ _ => by first | trivial | decide⟩, (List.forall_mem_cons.mpr ⟨⟨_, rfl, fun _ _ => by first | trivial | decide⟩, (List.forall_mem_cons.mpr ⟨⟨_, rfl, fun _ _ => by first | trivial | decide⟩, (List.forall_mem_cons.mpr ⟨⟨_, rfl, fun _ _ => by first | trivial | decide⟩, (List.forall_mem_cons.mpr ⟨⟨_, rfl, fun _ _ => by first | trivial | decide⟩, (List.forall_mem_cons.mpr ⟨⟨_, rfl, fun _ _ => by first | trivial | decide⟩, (List.forall_mem_cons.mpr ⟨⟨_, rfl, fun _ _ => by first | trivial | decide⟩, (List.forall_mem_cons.mpr ⟨⟨_, rfl, fun _ _ => by first | trivial | decide⟩, (List.forall_mem_cons.mpr ⟨⟨_, rfl, fun _ _ => by first | trivial | decide⟩, (List.forall_mem_cons.mpr ⟨⟨40, (u_29.1 7), 0, rfl, rfl, hr _ (List.mem_of_getElem? (i := 32) rfl), (show 0 ≤ (0 : Int32).toInt ∧ (0 : Int32).toInt ≤ ((40 : Nat) : Int) ∧ (0 : Int32).toInt = _ from ⟨by decide, by decide, (hz _ _ 0).symm⟩)⟩, (List.forall_mem_cons.mpr ⟨⟨_, rfl, fun j9 _ => (hz _ _ j9).symm⟩, (List.forall_mem_cons.mpr ⟨⟨60, (u_29.1 9), 0, rfl, rfl, hr _ (List.mem_of_getElem? (i := 34) rfl), (show 0 ≤ (0 : Int32).toInt ∧ (0 : Int32).toInt ≤ ((60 : Nat) : Int) ∧ (0 : Int32).toInt = _ from ⟨by decide, by decide, (hz _ _ 0).symm⟩)⟩, (List.forall_mem_cons.mpr ⟨⟨_, rfl, fun j9 _ => (hz _ _ j9).symm⟩, (List.forall_mem_cons.mpr ⟨⟨10, (u_29.1 11), 0, rfl, rfl, hr _ (List.mem_of_getElem? (i := 36) rfl), (show 0 ≤ (0 : Int32).toInt ∧ (0 : Int32).toInt ≤ ((10 : Nat) : Int) ∧ (0 : Int32).toInt = _ from ⟨by decide, by decide, (hz _ _ 0).symm⟩)⟩, (List.forall_mem_cons.mpr ⟨⟨_, rfl, fun j9 _ => (hz _ _ j9).symm⟩, (List.forall_mem_cons.mpr ⟨⟨8, (u_29.1 13), 0, rfl, rfl, hr _ (List.mem_of_getElem? (i := 38) rfl), (show 0 ≤ (0 : Int32).toInt ∧ (0 : Int32).toInt ≤ ((8 : Nat) : Int) from ⟨by decide, by decide⟩)⟩, (List.forall_mem_cons.mpr ⟨⟨_, rfl, fun _ _ => by first | trivial | decide⟩, (List.forall_mem_cons.mpr ⟨⟨_, rfl, fun _ _ => by first | trivial | decide⟩, (fun _ h9 => by cases h9)⟩)⟩)⟩)⟩)⟩)⟩)⟩)⟩)⟩)⟩)⟩)⟩)⟩)⟩)⟩)⟩)⟩)⟩)⟩)⟩)⟩)⟩)⟩)⟩)⟩)⟩)⟩)⟩)⟩)⟩)⟩)⟩)⟩)⟩)⟩)⟩)⟩)⟩)⟩)⟩)) (fun L K f hP hI hL hU hAL hmo hnn hnw hfo => ?_)
      have hfX : f o = .inr (11, [.ref x_5, .ref x_6, .ref x_7, .ref x_8, .ref x_9, .ref x_10, .ref x_11, .ref x_12, .ref x_13, .ref x_14, .ref x_15, .ref x_16, .ref x_17, .ref x_18, .ref x_19, .ref x_20]) := (hfo _ ho.1).trans hf_4
      have hI0 := hI
      have hD : va_D A (va_pl L f) := tp_D hL hAL
      have hAf : ∀ (H : Heap), s.heap.size ≤ H.size → ∀ q, tp_A L H.size q → A q := fun H h q hq => hq.elim (hAL q) (fun h2 => hA q (Nat.le_trans h h2))
      have hfr : ∀ b, (K b).1 ∉ ([1, 2, 3, 4, 6, 7, 8, 9, 10, 11, 12] : List Nat) → f b = f b := fun _ _ => rfl
      have ho := hmo _ _ _ _ ho
      have hx_6 := hmo _ _ _ _ hx_6
      have hx_5 := hmo _ _ _ _ hx_5
      have hx_7 := hmo _ _ _ _ hx_7
      have hx_8 := hmo _ _ _ _ hx_8
      have hx_9 := hmo _ _ _ _ hx_9
      have hx_10 := hmo _ _ _ _ hx_10
      have hx_11 := hmo _ _ _ _ hx_11
      have hx_12 := hmo _ _ _ _ hx_12
      have hx_13 := hmo _ _ _ _ hx_13
      have hx_14 := hmo _ _ _ _ hx_14
      have hx_15 := hmo _ _ _ _ hx_15
      have hx_16 := hmo _ _ _ _ hx_16
      have hx_17 := hmo _ _ _ _ hx_17
      have hx_18 := hmo _ _ _ _ hx_18
      have hx_19 := hmo _ _ _ _ hx_19
      have hx_20 := hmo _ _ _ _ hx_20
      have hq_27 : tp_r L K 1 (0) (p0.toInt.toNat + 1) q_27 := (hnn _ (List.mem_of_getElem? (i := 0) rfl)).1
      obtain ⟨g_31, hf_30, hg_32⟩ := (show tp_ab cy L K (4) (Γ_28 (12, 4, 0)) (f x_6) from hI.at hx_6)
      obtain ⟨x_34, x_35, x_36, x_37, x_38, x_39, x_40, x_41, x_42, hf_33, hx_34, hx_35, hx_36, hx_37, hx_38, hx_39, hx_40, hx_41, hx_42⟩ := (show tp_o_BOOK L K (0) (p0.toInt.toNat + 1) (Γ_28 (1, 0, (p0.toInt.toNat + 1))) (f q_27) from hI.at hq_27)
      have hn_43 : vp_in p0 (4) := tl_in (by omega) (by omega)
      obtain ⟨Γ_44, eΓ_44⟩ : ∃ y : tk_G, y = tg Γ_28 (12, 4, 0) (p0.toInt.toNat) 1 := ⟨_, rfl⟩
      have hI9 : tp_I cy L K Γ_44 (va_up f x_6 (.inl (cy 4, 4, .inr (.inr (.inr (.inr (va_up g_31 p0.toNatClampNeg (some q_27)))))))) := by rw [eΓ_44]; exact hI.setg hU rfl hx_6 (show tp_ab cy L K (4) (tgu (Γ_28 (12, 4, 0)) (p0.toInt.toNat) 1) _ from ⟨_, rfl, tp_ab_upd hg_32 hq_27⟩)
      have hfr9 : ∀ b, (K b).1 ∉ ([1, 2, 3, 4, 6, 7, 8, 9, 10, 11, 12] : List Nat) → va_up f x_6 (.inl (cy 4, 4, .inr (.inr (.inr (.inr (va_up g_31 p0.toNatClampNeg (some q_27))))))) b = f b := tp_fr hfr hx_6 (by decide)
      refine tp_astq (cy := cy) (t0 := 4) (ci := 0) hx hb hK hP hD hS hx_6.1 hf_30 rfl hq_27.1 hf_33 rfl hn_43 dX11_image_32 (fun H locs hP hD hS => ?_)
      have hP : va_P D vwCl (va_pl L (va_up f x_6 (.inl (cy 4, 4, .inr (.inr (.inr (.inr (va_up g_31 p0.toNatClampNeg (some q_27))))))))) H := hP
      generalize hfe : va_up f x_6 (.inl (cy 4, 4, .inr (.inr (.inr (.inr (va_up g_31 p0.toNatClampNeg (some q_27))))))) = f_45 at hP hI9 hfr9
      have hD : va_D A (va_pl L f_45) := tp_D hL hAL
      have hf_46 : f_45 x_6 = .inl (cy 4, 4, .inr (.inr (.inr (.inr (va_up g_31 p0.toNatClampNeg (some q_27)))))) := by rw [← hfe]; exact va_up_self _ _ _
      clear hfe
      have hI := hI9
      have hfr := hfr9
      clear hI9 hfr9
      refine lv_aload_n hx hb dX11_image_33 rfl (lv_at hl 0 rfl) ?_
      refine tp_get (cy := cy) (ci := 11) (v := .ref x_6) (C := RX11) (T := TX11) (N := 16) hx hb hta inlX11 hown hK hP ho.1 ((tp_un hfr ho (by decide)).trans hfX) rfl 1 (by decide) (hta _ wk_16) (fun _ h9 => h9) rfl dX11_image_34 ?_
      refine lv_iload_n hx hb dX11_image_37 rfl (lv_at hl 1 rfl) ?_
      have hn_47 : vp_in p0 (4) := tl_in (by omega) (by omega)
      refine tp_aldq (cy := cy) (t0 := 4) rfl hx hb hK hP hx_6.1 hf_46 hn_47 dX11_image_38 ?_
      refine W.eq (g2 := F0 m 39 ls ([.ref q_27])) (by rw [va_up_self]; rfl) ?_
      refine lv_aload_n hx hb dX11_image_39 rfl (lv_at hl 0 rfl) ?_
      refine tp_get (cy := cy) (ci := 11) (v := .ref x_5) (C := RX11) (T := TX11) (N := 16) hx hb hta inlX11 hown hK hP ho.1 ((tp_un hfr ho (by decide)).trans hfX) rfl 0 (by decide) (hta _ wk_15) (fun _ h9 => h9) rfl dX11_image_40 ?_
      obtain ⟨x_49, x_50, x_51, x_52, x_53, x_54, x_55, x_56, x_57, hf_48, hx_49, hx_50, hx_51, hx_52, hx_53, hx_54, hx_55, hx_56, hx_57⟩ := (show tp_o_BOOK L K (0) (p0.toInt.toNat + 1) (Γ_44 (1, 0, (p0.toInt.toNat + 1))) (f_45 q_27) from hI.at hq_27)
      refine tq_cv hS (hAf _ hS.1) (tq_rVN hN (As := [.ref x_5]) (rest := []) ⟨hx, hb, hml, hown, hta⟩ (tp_P.pre hK hN hL hU hI hP) (tp_recv hK hP hq_27.1 hf_48 rfl) lk_X11_491 (t_X0_copyFrom l D cy H.size L K Γ_44 f_45 (p0.toInt.toNat + 1) q_27 0 x_5 hq_27 hx_5) rfl rfl ⟨Nat.le_of_ble_eq_true rfl, Nat.le_of_ble_eq_true rfl⟩ rfl hl.1 rfl (Nat.le_of_ble_eq_true rfl) dX11_image_43 ⟨Nat.le_of_ble_eq_true rfl, Nat.le_of_ble_eq_true rfl⟩) (fun f_60 H locs hw_58 hP hI hc_61 hS => ?_)
      have hD : va_D A (va_pl L f_60) := tp_D hL hAL
      have hfr := tp_fr2 hfr hc_61 (by decide)
      have hf_62 := (tp_un hc_61 hx_6 (by decide)).trans hf_46
      obtain ⟨Γ_63, eΓ_63⟩ : ∃ y : tk_G, y = tm_copy Γ_44 (p0.toInt.toNat + 1) 0 := ⟨_, rfl⟩
      have hI : tp_I cy L K Γ_63 f_60 := by rw [eΓ_63]; exact hI
      have hG8 : Γ_63 = tm_img Γ p0.toInt.toNat := (by unfold tm_img; rw [if_pos hq0, ← eΓ_28, ← eΓ_44]; exact eΓ_63)
      refine lv_aload_n hx hb dX11_image_46 rfl (lv_at hl 0 rfl) ?_
      refine tp_get (cy := cy) (ci := 11) (v := .ref x_5) (C := RX11) (T := TX11) (N := 16) hx hb hta inlX11 hown hK hP ho.1 ((tp_un hfr ho (by decide)).trans hfX) rfl 0 (by decide) (hta _ wk_15) (fun _ h9 => h9) rfl dX11_image_47 ?_
      obtain ⟨x_65, x_66, x_67, x_68, x_69, x_70, x_71, x_72, x_73, hf_64, hx_65, hx_66, hx_67, hx_68, hx_69, hx_70, hx_71, hx_72, hx_73⟩ := (show tp_o_BOOK L K (0) 0 (Γ_63 (1, 0, 0)) (f_60 x_5) from hI.at hx_5)
      refine tp_getN (cy := cy) (ci := 0) (v := .ref x_67) (C := RX0) (T := TX0) (N := 9) hx hb hta inlX0 hown hK hP hx_5.1 hf_64 rfl 2 (by decide) (va_Nw.use rfl (hN.1 20 _ nk_20)) (fun _ h9 => h9) rfl dX11_image_50 ?_
      obtain ⟨x_75, x_76, x_77, x_78, x_79, x_80, hf_74, hx_75, hx_77, hx_78, hx_79, hx_80⟩ := (show tp_o_ROWS L K (0) 0 (Γ_63 (3, 0, 0)) (f_60 x_67) from hI.at hx_67)
      refine tp_getN (cy := cy) (ci := 4) (v := .int x_75) (C := RX4) (T := TX4) (N := 6) hx hb hta inlX4 hown hK hP hx_67.1 hf_74 rfl 0 (by decide) (va_Nw.use rfl (hN.1 2 _ nk_2)) (fun _ h9 => h9) rfl dX11_image_53 ?_
      have hG9 : Γ_63 = if 0 ≤ p0.toInt ∧ p0.toInt ≤ 3 then tm_img Γ p0.toInt.toNat else Γ := (by rw [if_pos (by omega)]; exact hG8)
      exact W.iret (v := x_75) hx hb hr (fun t ht hW => ⟨⟨_, (L, K, f_60), rfl, ⟨(by rw [if_pos (by omega), ← hG8]; omega), Or.inl (by omega)⟩, by rw [ht]; exact hP, (by rw [← hG9]; exact hI), hL, hU, hmo, hnw⟩, hS.F ht⟩) hS.2.2 dX11_image_56
    | some b_26 =>
      obtain ⟨hb_26, ib_26⟩ := (hg_23 _ (tp_pin hn_24)).1 _ q_25
      have hb_26 : tp_r L K 1 0 (p0.toInt.toNat + 1) b_26 := hb_26
      have ib_26 : Γ (12, 4, 0) p0.toInt.toNat = 1 := ib_26
      refine W.eq (g2 := F0 m 17 ls ([.ref b_26])) (by rfl) ?_
      refine lv_ifnonnull (tgt := 33) hx hb dX11_image_17 (by decide) ?_
      refine lv_aload_n hx hb dX11_image_33 rfl (lv_at hl 0 rfl) ?_
      refine tp_get (cy := cy) (ci := 11) (v := .ref x_6) (C := RX11) (T := TX11) (N := 16) hx hb hta inlX11 hown hK hP ho.1 hf_4 rfl 1 (by decide) (hta _ wk_16) (fun _ h9 => h9) rfl dX11_image_34 ?_
      refine lv_iload_n hx hb dX11_image_37 rfl (lv_at hl 1 rfl) ?_
      have hn_81 : vp_in p0 (4) := tl_in (by omega) (by omega)
      refine tp_aldq (cy := cy) (t0 := 4) rfl hx hb hK hP hx_6.1 hf_21 hn_81 dX11_image_38 ?_
      refine W.eq (g2 := F0 m 39 ls ([.ref b_26])) (by rw [q_25]; rfl) ?_
      refine lv_aload_n hx hb dX11_image_39 rfl (lv_at hl 0 rfl) ?_
      refine tp_get (cy := cy) (ci := 11) (v := .ref x_5) (C := RX11) (T := TX11) (N := 16) hx hb hta inlX11 hown hK hP ho.1 hf_4 rfl 0 (by decide) (hta _ wk_15) (fun _ h9 => h9) rfl dX11_image_40 ?_
      obtain ⟨x_83, x_84, x_85, x_86, x_87, x_88, x_89, x_90, x_91, hf_82, hx_83, hx_84, hx_85, hx_86, hx_87, hx_88, hx_89, hx_90, hx_91⟩ := (show tp_o_BOOK L K (0) (p0.toInt.toNat + 1) (Γ (1, 0, (p0.toInt.toNat + 1))) (f b_26) from hI.at hb_26)
      refine tq_cv hS (hAf _ hS.1) (tq_rVN hN (As := [.ref x_5]) (rest := []) ⟨hx, hb, hml, hown, hta⟩ (tp_P.pre hK hN hL hU hI hP) (tp_recv hK hP hb_26.1 hf_82 rfl) lk_X11_491 (t_X0_copyFrom l D cy s.heap.size L K Γ f (p0.toInt.toNat + 1) b_26 0 x_5 hb_26 hx_5) rfl rfl ⟨Nat.le_of_ble_eq_true rfl, Nat.le_of_ble_eq_true rfl⟩ rfl hl.1 rfl (Nat.le_of_ble_eq_true rfl) dX11_image_43 ⟨Nat.le_of_ble_eq_true rfl, Nat.le_of_ble_eq_true rfl⟩) (fun f_94 H locs hw_92 hP hI hc_95 hS => ?_)
      have hD : va_D A (va_pl L f_94) := tp_D hL hAL
      have hfr := tp_fr2 hfr hc_95 (by decide)
      have hf_96 := (tp_un hc_95 hx_6 (by decide)).trans hf_21
      obtain ⟨Γ_97, eΓ_97⟩ : ∃ y : tk_G, y = tm_copy Γ (p0.toInt.toNat + 1) 0 := ⟨_, rfl⟩
      have hI : tp_I cy L K Γ_97 f_94 := by rw [eΓ_97]; exact hI
      have hG8 : Γ_97 = tm_img Γ p0.toInt.toNat := (by unfold tm_img; rw [if_neg (by omega)]; exact eΓ_97)
      refine lv_aload_n hx hb dX11_image_46 rfl (lv_at hl 0 rfl) ?_
      refine tp_get (cy := cy) (ci := 11) (v := .ref x_5) (C := RX11) (T := TX11) (N := 16) hx hb hta inlX11 hown hK hP ho.1 ((tp_un hfr ho (by decide)).trans hf_4) rfl 0 (by decide) (hta _ wk_15) (fun _ h9 => h9) rfl dX11_image_47 ?_
      obtain ⟨x_99, x_100, x_101, x_102, x_103, x_104, x_105, x_106, x_107, hf_98, hx_99, hx_100, hx_101, hx_102, hx_103, hx_104, hx_105, hx_106, hx_107⟩ := (show tp_o_BOOK L K (0) 0 (Γ_97 (1, 0, 0)) (f_94 x_5) from hI.at hx_5)
      refine tp_getN (cy := cy) (ci := 0) (v := .ref x_101) (C := RX0) (T := TX0) (N := 9) hx hb hta inlX0 hown hK hP hx_5.1 hf_98 rfl 2 (by decide) (va_Nw.use rfl (hN.1 20 _ nk_20)) (fun _ h9 => h9) rfl dX11_image_50 ?_
      obtain ⟨x_109, x_110, x_111, x_112, x_113, x_114, hf_108, hx_109, hx_111, hx_112, hx_113, hx_114⟩ := (show tp_o_ROWS L K (0) 0 (Γ_97 (3, 0, 0)) (f_94 x_101) from hI.at hx_101)
      refine tp_getN (cy := cy) (ci := 4) (v := .int x_109) (C := RX4) (T := TX4) (N := 6) hx hb hta inlX4 hown hK hP hx_101.1 hf_108 rfl 0 (by decide) (va_Nw.use rfl (hN.1 2 _ nk_2)) (fun _ h9 => h9) rfl dX11_image_53 ?_
      have hG9 : Γ_97 = if 0 ≤ p0.toInt ∧ p0.toInt ≤ 3 then tm_img Γ p0.toInt.toNat else Γ := (by rw [if_pos (by omega)]; exact hG8)
      refine W.widen (k := 40) (n := 8199) (Nat.le_of_ble_eq_true rfl) (Nat.le_of_ble_eq_true rfl) ?_
      exact W.iret (v := x_109) hx hb hr (fun t ht hW => ⟨⟨_, (L, K, f_94), rfl, ⟨(by rw [if_pos (by omega), ← hG8]; omega), Or.inl (by omega)⟩, by rw [ht]; exact hP, (by rw [← hG9]; exact hI), hL, hU, hmo, hnw⟩, hS.F ht⟩) hS.2.2 dX11_image_56
  · have c_3 := hw_1.f c_3
    refine lv_iconst (v := (-1)) hx hb dX11_image_9 (by decide) ?_
    have hG9 : Γ = if 0 ≤ p0.toInt ∧ p0.toInt ≤ 3 then tm_img Γ p0.toInt.toNat else Γ := (by rw [if_neg (by omega)])
    refine W.widen (k := 40) (n := 8199) (Nat.le_of_ble_eq_true rfl) (Nat.le_of_ble_eq_true rfl) ?_
    exact W.iret (v := (-1)) hx hb hr (fun t ht hW => ⟨⟨_, (L, K, f), rfl, ⟨(by rw [if_neg (by omega)]; rfl), Or.inr (fun _ h9 => h9)⟩, by rw [ht]; exact hP, (by rw [← hG9]; exact hI), hL, hU, hmo, hnw⟩, hS.F ht⟩) hS.2.2 dX11_image_10

theorem dX12_line_0 : decode cX12_line 0 = .ok (.aload_n 0, 1) := by decide +kernel
theorem dX12_line_1 : decode cX12_line 1 = .ok (.getfield 7, 3) := by decide +kernel
theorem dX12_line_4 : decode cX12_line 4 = .ok (.iconst 3, 1) := by decide +kernel
theorem dX12_line_5 : decode cX12_line 5 = .ok (.iaload, 1) := by decide +kernel
theorem dX12_line_6 : decode cX12_line 6 = .ok (.bipush 60, 2) := by decide +kernel
theorem dX12_line_8 : decode cX12_line 8 = .ok (.if_icmp .eq 43, 3) := by decide +kernel
theorem dX12_line_11 : decode cX12_line 11 = .ok (.iload_n 1, 1) := by decide +kernel
theorem dX12_line_12 : decode cX12_line 12 = .ok (.i2l, 1) := by decide +kernel
theorem dX12_line_13 : decode cX12_line 13 = .ok (.lconst 0, 1) := by decide +kernel
theorem dX12_line_14 : decode cX12_line 14 = .ok (.ldc2_w 146, 3) := by decide +kernel
theorem dX12_line_17 : decode cX12_line 17 = .ok (.invokestatic 112, 3) := by decide +kernel
theorem dX12_line_20 : decode cX12_line 20 = .ok (.ifCond .eq 31, 3) := by decide +kernel
theorem dX12_line_23 : decode cX12_line 23 = .ok (.iload_n 2, 1) := by decide +kernel
theorem dX12_line_24 : decode cX12_line 24 = .ok (.invokestatic 124, 3) := by decide +kernel
theorem dX12_line_27 : decode cX12_line 27 = .ok (.ifCond .eq 24, 3) := by decide +kernel
theorem dX12_line_30 : decode cX12_line 30 = .ok (.iload_n 3, 1) := by decide +kernel
theorem dX12_line_31 : decode cX12_line 31 = .ok (.i2l, 1) := by decide +kernel
theorem dX12_line_32 : decode cX12_line 32 = .ok (.lconst 1, 1) := by decide +kernel
theorem dX12_line_33 : decode cX12_line 33 = .ok (.ldc2_w 148, 3) := by decide +kernel
theorem dX12_line_36 : decode cX12_line 36 = .ok (.invokestatic 112, 3) := by decide +kernel
theorem dX12_line_39 : decode cX12_line 39 = .ok (.ifCond .eq 12, 3) := by decide +kernel
theorem dX12_line_42 : decode cX12_line 42 = .ok (.aload_n 0, 1) := by decide +kernel
theorem dX12_line_43 : decode cX12_line 43 = .ok (.iload_n 1, 1) := by decide +kernel
theorem dX12_line_44 : decode cX12_line 44 = .ok (.iload_n 2, 1) := by decide +kernel
theorem dX12_line_45 : decode cX12_line 45 = .ok (.invokevirtual 150, 3) := by decide +kernel
theorem dX12_line_48 : decode cX12_line 48 = .ok (.ifCond .le 5, 3) := by decide +kernel
theorem dX12_line_51 : decode cX12_line 51 = .ok (.iconst (-1), 1) := by decide +kernel
theorem dX12_line_52 : decode cX12_line 52 = .ok (.ireturn, 1) := by decide +kernel
theorem dX12_line_53 : decode cX12_line 53 = .ok (.sipush 241, 3) := by decide +kernel
theorem dX12_line_56 : decode cX12_line 56 = .ok (.iconst 3, 1) := by decide +kernel
theorem dX12_line_57 : decode cX12_line 57 = .ok (.aload_n 0, 1) := by decide +kernel
theorem dX12_line_58 : decode cX12_line 58 = .ok (.getfield 7, 3) := by decide +kernel
theorem dX12_line_61 : decode cX12_line 61 = .ok (.iconst 3, 1) := by decide +kernel
theorem dX12_line_62 : decode cX12_line 62 = .ok (.iaload, 1) := by decide +kernel
theorem dX12_line_63 : decode cX12_line 63 = .ok (.imul, 1) := by decide +kernel
theorem dX12_line_64 : decode cX12_line 64 = .ok (.iadd, 1) := by decide +kernel
theorem dX12_line_65 : decode cX12_line 65 = .ok (.istore 4, 2) := by decide +kernel
theorem dX12_line_67 : decode cX12_line 67 = .ok (.aload_n 0, 1) := by decide +kernel
theorem dX12_line_68 : decode cX12_line 68 = .ok (.getfield 7, 3) := by decide +kernel
theorem dX12_line_71 : decode cX12_line 71 = .ok (.iload 4, 2) := by decide +kernel
theorem dX12_line_73 : decode cX12_line 73 = .ok (.iload_n 1, 1) := by decide +kernel
theorem dX12_line_74 : decode cX12_line 74 = .ok (.iastore, 1) := by decide +kernel
theorem dX12_line_75 : decode cX12_line 75 = .ok (.aload_n 0, 1) := by decide +kernel
theorem dX12_line_76 : decode cX12_line 76 = .ok (.getfield 7, 3) := by decide +kernel
theorem dX12_line_79 : decode cX12_line 79 = .ok (.iload 4, 2) := by decide +kernel
theorem dX12_line_81 : decode cX12_line 81 = .ok (.iconst 1, 1) := by decide +kernel
theorem dX12_line_82 : decode cX12_line 82 = .ok (.iadd, 1) := by decide +kernel
theorem dX12_line_83 : decode cX12_line 83 = .ok (.iload_n 2, 1) := by decide +kernel
theorem dX12_line_84 : decode cX12_line 84 = .ok (.iastore, 1) := by decide +kernel
theorem dX12_line_85 : decode cX12_line 85 = .ok (.aload_n 0, 1) := by decide +kernel
theorem dX12_line_86 : decode cX12_line 86 = .ok (.getfield 7, 3) := by decide +kernel
theorem dX12_line_89 : decode cX12_line 89 = .ok (.iload 4, 2) := by decide +kernel
theorem dX12_line_91 : decode cX12_line 91 = .ok (.iconst 2, 1) := by decide +kernel
theorem dX12_line_92 : decode cX12_line 92 = .ok (.iadd, 1) := by decide +kernel
theorem dX12_line_93 : decode cX12_line 93 = .ok (.iload_n 3, 1) := by decide +kernel
theorem dX12_line_94 : decode cX12_line 94 = .ok (.iastore, 1) := by decide +kernel
theorem dX12_line_95 : decode cX12_line 95 = .ok (.aload_n 0, 1) := by decide +kernel
theorem dX12_line_96 : decode cX12_line 96 = .ok (.getfield 7, 3) := by decide +kernel
theorem dX12_line_99 : decode cX12_line 99 = .ok (.iconst 3, 1) := by decide +kernel
theorem dX12_line_100 : decode cX12_line 100 = .ok (.dup2, 1) := by decide +kernel
theorem dX12_line_101 : decode cX12_line 101 = .ok (.iaload, 1) := by decide +kernel
theorem dX12_line_102 : decode cX12_line 102 = .ok (.iconst 1, 1) := by decide +kernel
theorem dX12_line_103 : decode cX12_line 103 = .ok (.iadd, 1) := by decide +kernel
theorem dX12_line_104 : decode cX12_line 104 = .ok (.iastore, 1) := by decide +kernel
theorem dX12_line_105 : decode cX12_line 105 = .ok (.aload_n 0, 1) := by decide +kernel
theorem dX12_line_106 : decode cX12_line 106 = .ok (.getfield 7, 3) := by decide +kernel
theorem dX12_line_109 : decode cX12_line 109 = .ok (.iconst 3, 1) := by decide +kernel
theorem dX12_line_110 : decode cX12_line 110 = .ok (.iaload, 1) := by decide +kernel
theorem dX12_line_111 : decode cX12_line 111 = .ok (.ireturn, 1) := by decide +kernel
/-- whether a table of threes has these two -/
def tm_hasM (σ : Nat → Int) (n : Nat) (a b : Int) : Prop := ∃ j : Nat, j < n ∧ σ (241 + 3 * (j : Int) + 0).toNat = a ∧ σ (241 + 3 * (j : Int) + 1).toNat = b
theorem tm_hasM0 {σ : Nat → Int} {a b : Int} : ¬ tm_hasM σ (0 : Int).toNat a b := fun ⟨_, h, _⟩ => absurd h (Nat.not_lt_zero _)
theorem tm_hasMs {σ : Nat → Int} {x y a b : Int} (hx : 0 ≤ x) (hy : y = x + 1) : tm_hasM σ y.toNat a b ↔ tm_hasM σ x.toNat a b ∨ (σ (241 + 3 * x + 0).toNat = a ∧ σ (241 + 3 * x + 1).toNat = b) := by
  subst hy
  constructor
  · rintro ⟨j, h, h1, h2⟩
    by_cases hj : (j : Int) = x
    · rw [hj] at h1 h2; exact Or.inr ⟨h1, h2⟩
    · exact Or.inl ⟨j, by omega, h1, h2⟩
  · rintro (⟨j, h, h1, h2⟩ | ⟨h1, h2⟩)
    · exact ⟨j, by omega, h1, h2⟩
    · refine ⟨x.toNat, by omega, ?_, ?_⟩
      · rw [show ((x.toNat : Nat) : Int) = x from by omega]; exact h1
      · rw [show ((x.toNat : Nat) : Int) = x from by omega]; exact h2
set_option maxHeartbeats 4000000 in
set_option maxRecDepth 100000 in
theorem r_depthOf2 (l : Launch) (D : va_G) (cy : Nat → ClassId) (sz : Nat) (L : List Nat) (K : Nat → tk_K) (Γ : tk_G) (f : Nat → va_E) (o : Nat) (p0 : Int32) (p1 : Int32) (ho : tp_r L K 39 (0) 0 o) (hs : (0 ≤ Γ (40, 7666, 0) 1 ∧ Γ (40, 7666, 0) 1 ≤ 24) ∧ (0 ≤ Γ (40, 7666, 0) 2 ∧ Γ (40, 7666, 0) 2 ≤ 40) ∧ (0 ≤ Γ (40, 7666, 0) 3 ∧ Γ (40, 7666, 0) 3 ≤ 60) ∧ (0 ≤ Γ (40, 7666, 0) 4 ∧ Γ (40, 7666, 0) 4 ≤ 10) ∧ (0 ≤ Γ (40, 7666, 0) 7665 ∧ Γ (40, 7666, 0) 7665 ≤ 8)) (hdp : ∀ l : Nat, (l : Int) < Γ (40, 7666, 0) 3 → 1 ≤ Γ (40, 7666, 0) (243 + 3 * l)) : Met l yX12_depthOf (tl_w yX12_depthOf cX12_depthOf 4 (some .int)) ({ frames := 1, cells := 0, slots := 0, locals := 22 }) (va_Pc [.ref o, .int p0, .int p1] (tp_P D cy L K Γ f sz)) (vp_Si (fun r : Int32 => 0 < r.toInt ↔ tm_hasM (Γ (40, 7666, 0)) (Γ (40, 7666, 0) 3).toNat p0.toInt p1.toInt)) 0 0 (fun _ => False) := by
  refine Met.ofW (cc := cX12_depthOf) (maxL := 4) (ret := (some .int)) (by decide) rfl ?_
  intro p e s m args below meth c s₁ B hml hv
  obtain ⟨rfl, hsz, hP, hK, hL, hI, hN, hU⟩ := hv
  have hx := B.exec
  have hb := B.bytes
  have hr := B.returns
  have hta := tl_hta (atoms_spec (ws := tl_w yX12_depthOf cX12_depthOf 4 (some .int)) B.pre)
  have hown : s.vm.findClass RX12 = some m.cls := findClass_of_methodNamed B.named
  have hlocks := B.notSynchronized
  subst hsz
  have hI0 := hI
  have hl := lv_entry ([.ref o, .int p0, .int p1]) (n := 4) (Nat.le_of_ble_eq_true rfl)
  rw [lg_entry_eq]
  generalize (lg_sl ([.ref o, .int p0, .int p1]) ++ List.replicate (4 - (lg_sl ([.ref o, .int p0, .int p1])).length) Slot.unset).toArray = ls at hl ⊢
  have hl : lv_has ls 4 [(0, .ref o), (1, .int p0), (2, .int p1)] := hl
  refine lv_iconst (v := 0) hx hb dX12_depthOf_0 (by decide) ?_
  refine lv_istore_n (lv' := [(3, .int 0), (0, .ref o), (1, .int p0), (2, .int p1)]) hx hb dX12_depthOf_1 rfl hl (by decide) rfl (fun ls hl => ?_)
  refine tl_indR (G := fun ls => W p l e ((headSpec (tl_w yX12_depthOf cX12_depthOf 4 (some .int)) ({ frames := 1, cells := 0, slots := 0, locals := 22 })).room) s m #[.ref o, .int p0, .int p1] below meth c s.heap [] 0 0 (MQ below (vp_Si (fun r : Int32 => 0 < r.toInt ↔ tm_hasM (Γ (40, 7666, 0)) (Γ (40, 7666, 0) 3).toNat p0.toInt p1.toInt)) #[.ref o, .int p0, .int p1] s 0 0 (fun _ => False)) (F0 m 2 ls [])) (α := Int32) (fun aq => (60 - aq.toInt).toNat) (fun aq ls => (0 ≤ aq.toInt ∧ aq.toInt ≤ Γ (40, 7666, 0) 3) ∧ (¬ tm_hasM (Γ (40, 7666, 0)) aq.toInt.toNat p0.toInt p1.toInt) ∧ lv_has ls 4 [(3, .int aq), (0, .ref o), (1, .int p0), (2, .int p1)]) ?_ (0 : Int32) ls ⟨(show 0 ≤ (0 : Int) ∧ (0 : Int) ≤ Γ (40, 7666, 0) 3 from (by omega)), (show ¬ tm_hasM (Γ (40, 7666, 0)) (0 : Int).toNat p0.toInt p1.toInt from tm_hasM0), lv_sub hl [0, 1, 2, 3] rfl⟩
  rintro v3 ls ⟨h0, hno, hl⟩ ih2
  have h0 : 0 ≤ v3.toInt ∧ v3.toInt ≤ Γ (40, 7666, 0) 3 := h0
  have hno : ¬ tm_hasM (Γ (40, 7666, 0)) v3.toInt.toNat p0.toInt p1.toInt := hno
  have hl : lv_has ls 4 [(3, .int v3), (0, .ref o), (1, .int p0), (2, .int p1)] := hl
  refine lv_iload_n hx hb dX12_depthOf_2 rfl (lv_at hl 0 rfl) ?_
  refine lv_aload_n hx hb dX12_depthOf_3 rfl (lv_at hl 1 rfl) ?_
  obtain ⟨r_2, v_3, q_4, hf_1, hr_5, hv_6⟩ := (show tp_o_M L K 0 0 (Γ (39, 0, 0)) (f o) from hI0.at ho)
  refine tp_get (cy := cy) (ci := 12) (v := .ref (r_2 0)) (C := RX12) (T := TX12) (N := 49) hx hb hta inlX12 hown hK hP ho.1 hf_1 rfl 0 (by decide) (hta _ wk_149) (fun _ h9 => h9) rfl dX12_depthOf_4 ?_
  refine lv_iconst (v := 3) hx hb dX12_depthOf_7 (by decide) ?_
  obtain ⟨g_8, hf_7, hg_9⟩ := (show tp_gi cy (7666) (Γ (40, 7666, 0)) (f (r_2 0)) from hI0.at (show tp_r L K 40 7666 0 (r_2 0) from hr_5 0 (by decide)))
  have hn_10 : vp_in 3 (7666) := tl_in (by decide) (by decide)
  refine tp_iald (cy := cy) hx hb hK hP (show tp_r L K 40 7666 0 (r_2 0) from hr_5 0 (by decide)).1 hf_7 hn_10 dX12_depthOf_8 ?_
  refine lv_topi (fun z_11 ez_11 => ?_)
  have iz_11 : z_11.toInt = Γ (40, 7666, 0) 3 := by rw [ez_11]; exact hg_9 _ (tp_pin hn_10)
  refine lv_icmp_ge (tgt := 45) hx hb dX12_depthOf_9 (by decide) (fun c_12 => ?_) (fun c_12 => ?_)
  · have c_12 : z_11.toInt ≤ v3.toInt := tl_le c_12
    refine lv_iconst (v := 0) hx hb dX12_depthOf_45 (by decide) ?_
    exact W.iret (v := 0) hx hb hr (fun t ht hW => ⟨_, rfl, ⟨fun q9 => absurd q9 (by decide), fun q9 => absurd (show tm_hasM (Γ (40, 7666, 0)) v3.toInt.toNat p0.toInt p1.toInt from by rw [show v3.toInt = Γ (40, 7666, 0) 3 from by omega]; exact q9) hno⟩, ht⟩) (fun q h => by cases h) dX12_depthOf_46
  · have c_12 : v3.toInt < z_11.toInt := tl_nle c_12
    refine lv_aload_n hx hb dX12_depthOf_12 rfl (lv_at hl 1 rfl) ?_
    refine lv_iload_n hx hb dX12_depthOf_13 rfl (lv_at hl 0 rfl) ?_
    refine lv_iconst (v := 0) hx hb dX12_depthOf_14 (by decide) ?_
    refine tl_si (tq_rV (As := [.int v3, .int 0]) (rest := []) ⟨hx, hb, hml, hown, hta⟩ (tp_P.pre hK hN hL hU hI hP) (tp_recv hK hP ho.1 hf_1 rfl) lk_X12_143 (r_X12_lineOf l D cy s.heap.size L K Γ f o v3 0 ho (by first | omega | (simp only [Int32.toInt_toInt64]; omega) | decide | assumption) (by first | omega | (simp only [Int32.toInt_toInt64]; omega) | decide | assumption)) rfl rfl ⟨Nat.le_of_ble_eq_true rfl, Nat.le_of_ble_eq_true rfl⟩ rfl hl.1 rfl (Nat.le_of_ble_eq_true rfl) dX12_depthOf_15 ⟨Nat.le_of_ble_eq_true rfl, Nat.le_of_ble_eq_true rfl⟩) (fun r_14 hw_13 => ?_)
    have hw_13 : r_14.toInt = Γ (40, 7666, 0) (241 + 3 * v3.toInt + (0 : Int)).toNat := hw_13
    refine lv_iload_n hx hb dX12_depthOf_18 rfl (lv_at hl 2 rfl) ?_
    refine lv_icmp_ne (tgt := 39) hx hb dX12_depthOf_19 (by decide) (fun c_15 => ?_) (fun c_15 => ?_)
    · have c_15 : ¬ r_14.toInt = p0.toInt := tl_neq c_15
      obtain ⟨z_16, ez_16⟩ : ∃ y : Int32, y = v3 + 1 := ⟨_, rfl⟩
      refine lv_iinc (v := z_16) (lv' := [(3, .int z_16), (0, .ref o), (1, .int p0), (2, .int p1)]) hx hb dX12_depthOf_39 hl (k := 0) rfl (by rw [ez_16]; rfl) (by decide) rfl (fun ls hl => ?_)
      try have iz_16 : z_16.toInt = v3.toInt + 1 := by rw [ez_16]; exact tl_addL v3 1 (by decide) (by omega) (by omega)
      refine lv_goto (tgt := 2) hx hb dX12_depthOf_42 (by decide) ?_
      exact ih2 z_16 ls (by show (60 - z_16.toInt).toNat < (60 - v3.toInt).toNat; omega) ⟨(show 0 ≤ z_16.toInt ∧ z_16.toInt ≤ Γ (40, 7666, 0) 3 from (by omega)), (show ¬ tm_hasM (Γ (40, 7666, 0)) z_16.toInt.toNat p0.toInt p1.toInt from (fun q9 => ((tm_hasMs (by omega) (by omega)).mp q9).elim hno (fun q8 => by omega))), lv_sub hl [0, 1, 2, 3] rfl⟩
    · have c_15 : r_14.toInt = p0.toInt := tl_eq c_15
      refine lv_aload_n hx hb dX12_depthOf_22 rfl (lv_at hl 1 rfl) ?_
      refine lv_iload_n hx hb dX12_depthOf_23 rfl (lv_at hl 0 rfl) ?_
      refine lv_iconst (v := 1) hx hb dX12_depthOf_24 (by decide) ?_
      refine tl_si (tq_rV (As := [.int v3, .int 1]) (rest := []) ⟨hx, hb, hml, hown, hta⟩ (tp_P.pre hK hN hL hU hI hP) (tp_recv hK hP ho.1 hf_1 rfl) lk_X12_143 (r_X12_lineOf l D cy s.heap.size L K Γ f o v3 1 ho (by first | omega | (simp only [Int32.toInt_toInt64]; omega) | decide | assumption) (by first | omega | (simp only [Int32.toInt_toInt64]; omega) | decide | assumption)) rfl rfl ⟨Nat.le_of_ble_eq_true rfl, Nat.le_of_ble_eq_true rfl⟩ rfl hl.1 rfl (Nat.le_of_ble_eq_true rfl) dX12_depthOf_25 ⟨Nat.le_of_ble_eq_true rfl, Nat.le_of_ble_eq_true rfl⟩) (fun r_18 hw_17 => ?_)
      have hw_17 : r_18.toInt = Γ (40, 7666, 0) (241 + 3 * v3.toInt + (1 : Int)).toNat := hw_17
      refine lv_iload_n hx hb dX12_depthOf_28 rfl (lv_at hl 3 rfl) ?_
      refine lv_icmp_ne (tgt := 39) hx hb dX12_depthOf_29 (by decide) (fun c_19 => ?_) (fun c_19 => ?_)
      · have c_19 : ¬ r_18.toInt = p1.toInt := tl_neq c_19
        obtain ⟨z_20, ez_20⟩ : ∃ y : Int32, y = v3 + 1 := ⟨_, rfl⟩
        refine lv_iinc (v := z_20) (lv' := [(3, .int z_20), (0, .ref o), (1, .int p0), (2, .int p1)]) hx hb dX12_depthOf_39 hl (k := 0) rfl (by rw [ez_20]; rfl) (by decide) rfl (fun ls hl => ?_)
        try have iz_20 : z_20.toInt = v3.toInt + 1 := by rw [ez_20]; exact tl_addL v3 1 (by decide) (by omega) (by omega)
        refine lv_goto (tgt := 2) hx hb dX12_depthOf_42 (by decide) ?_
        exact ih2 z_20 ls (by show (60 - z_20.toInt).toNat < (60 - v3.toInt).toNat; omega) ⟨(show 0 ≤ z_20.toInt ∧ z_20.toInt ≤ Γ (40, 7666, 0) 3 from (by omega)), (show ¬ tm_hasM (Γ (40, 7666, 0)) z_20.toInt.toNat p0.toInt p1.toInt from (fun q9 => ((tm_hasMs (by omega) (by omega)).mp q9).elim hno (fun q8 => by omega))), lv_sub hl [0, 1, 2, 3] rfl⟩
      · have c_19 : r_18.toInt = p1.toInt := tl_eq c_19
        refine lv_aload_n hx hb dX12_depthOf_32 rfl (lv_at hl 1 rfl) ?_
        refine lv_iload_n hx hb dX12_depthOf_33 rfl (lv_at hl 0 rfl) ?_
        refine lv_iconst (v := 2) hx hb dX12_depthOf_34 (by decide) ?_
        refine tl_si (tq_rV (As := [.int v3, .int 2]) (rest := []) ⟨hx, hb, hml, hown, hta⟩ (tp_P.pre hK hN hL hU hI hP) (tp_recv hK hP ho.1 hf_1 rfl) lk_X12_143 (r_X12_lineOf l D cy s.heap.size L K Γ f o v3 2 ho (by first | omega | (simp only [Int32.toInt_toInt64]; omega) | decide | assumption) (by first | omega | (simp only [Int32.toInt_toInt64]; omega) | decide | assumption)) rfl rfl ⟨Nat.le_of_ble_eq_true rfl, Nat.le_of_ble_eq_true rfl⟩ rfl hl.1 rfl (Nat.le_of_ble_eq_true rfl) dX12_depthOf_35 ⟨Nat.le_of_ble_eq_true rfl, Nat.le_of_ble_eq_true rfl⟩) (fun r_22 hw_21 => ?_)
        have hw_21 : r_22.toInt = Γ (40, 7666, 0) (241 + 3 * v3.toInt + (2 : Int)).toNat := hw_21
        exact W.iret (v := r_22) hx hb hr (fun t ht hW => ⟨_, rfl, ⟨fun _ => ⟨v3.toInt.toNat, by omega, by rw [show ((v3.toInt.toNat : Nat) : Int) = v3.toInt from by omega]; omega, by rw [show ((v3.toInt.toNat : Nat) : Int) = v3.toInt from by omega]; omega⟩, fun _ => by have q9 := hdp v3.toInt.toNat (by omega); rw [show Γ (40, 7666, 0) (243 + 3 * v3.toInt.toNat) = r_22.toInt from (hw_21.trans (congrArg _ (by omega))).symm] at q9; omega⟩, ht⟩) (fun q h => by cases h) dX12_depthOf_38
set_option maxHeartbeats 4000000 in
set_option maxRecDepth 100000 in
theorem r_X12_line (l : Launch) (D : va_G) (cy : Nat → ClassId) (sz : Nat) (L : List Nat) (K : Nat → tk_K) (Γ : tk_G) (f : Nat → va_E) (o : Nat) (p0 : Int32) (p1 : Int32) (p2 : Int32) (ho : tp_r L K 39 (0) 0 o) (hs : (0 ≤ Γ (40, 7666, 0) 1 ∧ Γ (40, 7666, 0) 1 ≤ 24) ∧ (0 ≤ Γ (40, 7666, 0) 2 ∧ Γ (40, 7666, 0) 2 ≤ 40) ∧ (0 ≤ Γ (40, 7666, 0) 3 ∧ Γ (40, 7666, 0) 3 ≤ 60) ∧ (0 ≤ Γ (40, 7666, 0) 4 ∧ Γ (40, 7666, 0) 4 ≤ 10) ∧ (0 ≤ Γ (40, 7666, 0) 7665 ∧ Γ (40, 7666, 0) 7665 ≤ 8)) (hdp : ∀ l : Nat, (l : Int) < Γ (40, 7666, 0) 3 → 1 ≤ Γ (40, 7666, 0) (243 + 3 * l)) : Met l yX12_line (tl_w yX12_line cX12_line 5 (some .int)) ({ frames := 2, cells := 0, slots := 0, locals := 45 }) (va_Pc [.ref o, .int p0, .int p1, .int p2] (tp_P D cy L K Γ f sz)) (va_Qi (fun (r : Int32) (u : (Nat → va_E) × tk_G) => r.toInt = tm_if ((¬ Γ (40, 7666, 0) 3 = 60 ∧ (0 ≤ p0.toInt ∧ p0.toInt ≤ 11) ∧ (0 ≤ p1.toInt ∧ p1.toInt ≤ 299) ∧ (1 ≤ p2.toInt ∧ p2.toInt ≤ 1000)) ∧ ¬ tm_hasM (Γ (40, 7666, 0)) (Γ (40, 7666, 0) 3).toNat p0.toInt p1.toInt) (Γ (40, 7666, 0) 3 + 1) (-1) ∧ u.2 (40, 7666, 0) = tm_if ((¬ Γ (40, 7666, 0) 3 = 60 ∧ (0 ≤ p0.toInt ∧ p0.toInt ≤ 11) ∧ (0 ≤ p1.toInt ∧ p1.toInt ≤ 299) ∧ (1 ≤ p2.toInt ∧ p2.toInt ≤ 1000)) ∧ ¬ tm_hasM (Γ (40, 7666, 0)) (Γ (40, 7666, 0) 3).toNat p0.toInt p1.toInt) (tgu (tgu (tgu (tgu (Γ (40, 7666, 0)) (241 + 3 * Γ (40, 7666, 0) 3 + 0).toNat (p0.toInt)) (241 + 3 * Γ (40, 7666, 0) 3 + 1).toNat (p1.toInt)) (241 + 3 * Γ (40, 7666, 0) 3 + 2).toNat (p2.toInt)) 3 (Γ (40, 7666, 0) 3 + 1)) (Γ (40, 7666, 0))) (tp_BG D cy L K Γ f [40]) (tp_A L sz)) 0 0 (tp_A L sz) := by
  refine Met.ofW (cc := cX12_line) (maxL := 5) (ret := (some .int)) (by decide) rfl ?_
  intro p e s m args below meth c s₁ B hml hv
  obtain ⟨rfl, hsz, hP, hK, hL, hI, hN, hU⟩ := hv
  have hx := B.exec
  have hb := B.bytes
  have hr := B.returns
  have hta := tl_hta (atoms_spec (ws := tl_w yX12_line cX12_line 5 (some .int)) B.pre)
  have hown : s.vm.findClass RX12 = some m.cls := findClass_of_methodNamed B.named
  have hlocks := B.notSynchronized
  subst hsz
  have hI0 := hI
  generalize hAe : tp_A L s.heap.size = A
  have hA : ∀ q : Nat, s.heap.size ≤ q → A q := fun q h => by rw [← hAe]; exact Or.inr h
  have hAL : ∀ q ∈ L, A q := fun q h => by rw [← hAe]; exact Or.inl h
  have hAf : ∀ (H : Heap), s.heap.size ≤ H.size → ∀ q, tp_A L H.size q → A q := fun H h q hq => hq.elim (hAL q) (fun h2 => hA q (Nat.le_trans h h2))
  have hS : va_S A s.heap s.heap [] := va_S.rf
  have hD : va_D A (va_pl L f) := tp_D hL hAL
  have hfr : ∀ b, (K b).1 ∉ ([40] : List Nat) → f b = f b := fun _ _ => rfl
  have hgr : ∀ κ : tk_K, κ.1 ∉ ([40] : List Nat) → Γ κ = Γ κ := fun _ _ => rfl
  have hl := lv_entry ([.ref o, .int p0, .int p1, .int p2]) (n := 5) (Nat.le_of_ble_eq_true rfl)
  rw [lg_entry_eq]
  generalize (lg_sl ([.ref o, .int p0, .int p1, .int p2]) ++ List.replicate (5 - (lg_sl ([.ref o, .int p0, .int p1, .int p2])).length) Slot.unset).toArray = ls at hl ⊢
  have hl : lv_has ls 5 [(0, .ref o), (1, .int p0), (2, .int p1), (3, .int p2)] := hl
  refine lv_aload_n hx hb dX12_line_0 rfl (lv_at hl 0 rfl) ?_
  obtain ⟨r_2, v_3, q_4, hf_1, hr_5, hv_6⟩ := (show tp_o_M L K 0 0 (Γ (39, 0, 0)) (f o) from hI0.at ho)
  refine tp_get (cy := cy) (ci := 12) (v := .ref (r_2 0)) (C := RX12) (T := TX12) (N := 49) hx hb hta inlX12 hown hK hP ho.1 hf_1 rfl 0 (by decide) (hta _ wk_149) (fun _ h9 => h9) rfl dX12_line_1 ?_
  refine lv_iconst (v := 3) hx hb dX12_line_4 (by decide) ?_
  obtain ⟨g_8, hf_7, hg_9⟩ := (show tp_gi cy (7666) (Γ (40, 7666, 0)) (f (r_2 0)) from hI.at (show tp_r L K 40 7666 0 (r_2 0) from hr_5 0 (by decide)))
  have hn_10 : vp_in 3 (7666) := tl_in (by decide) (by decide)
  refine tp_iald (cy := cy) hx hb hK hP (show tp_r L K 40 7666 0 (r_2 0) from hr_5 0 (by decide)).1 hf_7 hn_10 dX12_line_5 ?_
  refine lv_topi (fun z_11 ez_11 => ?_)
  have iz_11 : z_11.toInt = Γ (40, 7666, 0) 3 := by rw [ez_11]; exact hg_9 _ (tp_pin hn_10)
  refine lv_bipush (v := 60) hx hb dX12_line_6 (by decide) ?_
  refine lv_icmp_eq (tgt := 51) hx hb dX12_line_8 (by decide) (fun c_12 => ?_) (fun c_12 => ?_)
  · have c_12 : z_11.toInt = (60 : Int) := tl_eq c_12
    refine lv_iconst (v := (-1)) hx hb dX12_line_51 (by decide) ?_
    have hpo9 : ((-1) : Int32).toInt = tm_if ((¬ Γ (40, 7666, 0) 3 = 60 ∧ (0 ≤ p0.toInt ∧ p0.toInt ≤ 11) ∧ (0 ≤ p1.toInt ∧ p1.toInt ≤ 299) ∧ (1 ≤ p2.toInt ∧ p2.toInt ≤ 1000)) ∧ ¬ tm_hasM (Γ (40, 7666, 0)) (Γ (40, 7666, 0) 3).toNat p0.toInt p1.toInt) (Γ (40, 7666, 0) 3 + 1) (-1) ∧ Γ (40, 7666, 0) = tm_if ((¬ Γ (40, 7666, 0) 3 = 60 ∧ (0 ≤ p0.toInt ∧ p0.toInt ≤ 11) ∧ (0 ≤ p1.toInt ∧ p1.toInt ≤ 299) ∧ (1 ≤ p2.toInt ∧ p2.toInt ≤ 1000)) ∧ ¬ tm_hasM (Γ (40, 7666, 0)) (Γ (40, 7666, 0) 3).toNat p0.toInt p1.toInt) (tgu (tgu (tgu (tgu (Γ (40, 7666, 0)) (241 + 3 * Γ (40, 7666, 0) 3 + 0).toNat (p0.toInt)) (241 + 3 * Γ (40, 7666, 0) 3 + 1).toNat (p1.toInt)) (241 + 3 * Γ (40, 7666, 0) 3 + 2).toNat (p2.toInt)) 3 (Γ (40, 7666, 0) 3 + 1)) (Γ (40, 7666, 0)) := ⟨(by rw [tm_if_f (fun q9 => by first | omega | exact q9.2 (hdn.mp (by omega)))]; rfl), (by rw [tm_if_f (fun q9 => by first | omega | exact q9.2 (hdn.mp (by omega)))])⟩
    exact W.iret (v := (-1)) hx hb hr (fun t ht hW => ⟨⟨_, (f, Γ), rfl, hpo9, by rw [ht]; exact hP, hI, hfr, hgr⟩, hS.F ht⟩) hS.2.2 dX12_line_52
  · have c_12 : ¬ z_11.toInt = (60 : Int) := tl_neq c_12
    refine lv_iload_n hx hb dX12_line_11 rfl (lv_at hl 1 rfl) ?_
    refine lv_i2l (v := p0.toInt64) hx hb dX12_line_12 (by first | rfl | decide) ?_
    refine lv_lconst (v := 0) hx hb dX12_line_13 (by decide) ?_
    refine lv_ldc2 (v := 11) hx hb hown (hta _ wk_325) dX12_line_14 ?_
    refine tl_si (tq_rS (As := [.long p0.toInt64, .long 0, .long 11]) (rest := []) ⟨hx, hb, hml, hown, hta⟩ (tp_P.pre hK hN hL hU hI hP) lk_X12_112 (r_X12_in l D cy s.heap.size L K Γ f p0.toInt64 0 11 ) rfl rfl ⟨Nat.le_of_ble_eq_true rfl, Nat.le_of_ble_eq_true rfl⟩ rfl hl.1 rfl (Nat.le_of_ble_eq_true rfl) dX12_line_17 ⟨Nat.le_of_ble_eq_true rfl, Nat.le_of_ble_eq_true rfl⟩) (fun r_14 hw_13 => ?_)
    simp only [Int32.toInt_toInt64] at hw_13
    have hw_13 : tl_E r_14 ((0 : Int) ≤ p0.toInt ∧ p0.toInt ≤ (11 : Int)) 1 0 := hw_13
    refine lv_if_eq (tgt := 51) hx hb dX12_line_20 (by decide) (fun c_15 => ?_) (fun c_15 => ?_)
    · have c_15 := hw_13.f c_15
      refine lv_iconst (v := (-1)) hx hb dX12_line_51 (by decide) ?_
      have hpo9 : ((-1) : Int32).toInt = tm_if ((¬ Γ (40, 7666, 0) 3 = 60 ∧ (0 ≤ p0.toInt ∧ p0.toInt ≤ 11) ∧ (0 ≤ p1.toInt ∧ p1.toInt ≤ 299) ∧ (1 ≤ p2.toInt ∧ p2.toInt ≤ 1000)) ∧ ¬ tm_hasM (Γ (40, 7666, 0)) (Γ (40, 7666, 0) 3).toNat p0.toInt p1.toInt) (Γ (40, 7666, 0) 3 + 1) (-1) ∧ Γ (40, 7666, 0) = tm_if ((¬ Γ (40, 7666, 0) 3 = 60 ∧ (0 ≤ p0.toInt ∧ p0.toInt ≤ 11) ∧ (0 ≤ p1.toInt ∧ p1.toInt ≤ 299) ∧ (1 ≤ p2.toInt ∧ p2.toInt ≤ 1000)) ∧ ¬ tm_hasM (Γ (40, 7666, 0)) (Γ (40, 7666, 0) 3).toNat p0.toInt p1.toInt) (tgu (tgu (tgu (tgu (Γ (40, 7666, 0)) (241 + 3 * Γ (40, 7666, 0) 3 + 0).toNat (p0.toInt)) (241 + 3 * Γ (40, 7666, 0) 3 + 1).toNat (p1.toInt)) (241 + 3 * Γ (40, 7666, 0) 3 + 2).toNat (p2.toInt)) 3 (Γ (40, 7666, 0) 3 + 1)) (Γ (40, 7666, 0)) := ⟨(by rw [tm_if_f (fun q9 => by first | omega | exact q9.2 (hdn.mp (by omega)))]; rfl), (by rw [tm_if_f (fun q9 => by first | omega | exact q9.2 (hdn.mp (by omega)))])⟩
      exact W.iret (v := (-1)) hx hb hr (fun t ht hW => ⟨⟨_, (f, Γ), rfl, hpo9, by rw [ht]; exact hP, hI, hfr, hgr⟩, hS.F ht⟩) hS.2.2 dX12_line_52
    · have c_15 := hw_13.t c_15
      refine lv_iload_n hx hb dX12_line_23 rfl (lv_at hl 2 rfl) ?_
      refine tl_si (tq_rS (As := [.int p1]) (rest := []) ⟨hx, hb, hml, hown, hta⟩ (tp_P.pre hK hN hL hU hI hP) lk_X12_124 (r_X12_isColour l D cy s.heap.size L K Γ f p1 ) rfl rfl ⟨Nat.le_of_ble_eq_true rfl, Nat.le_of_ble_eq_true rfl⟩ rfl hl.1 rfl (Nat.le_of_ble_eq_true rfl) dX12_line_24 ⟨Nat.le_of_ble_eq_true rfl, Nat.le_of_ble_eq_true rfl⟩) (fun r_17 hw_16 => ?_)
      have hw_16 : tl_E r_17 (0 ≤ p1.toInt ∧ p1.toInt ≤ 299) 1 0 := hw_16
      refine lv_if_eq (tgt := 51) hx hb dX12_line_27 (by decide) (fun c_18 => ?_) (fun c_18 => ?_)
      · have c_18 := hw_16.f c_18
        refine lv_iconst (v := (-1)) hx hb dX12_line_51 (by decide) ?_
        have hpo9 : ((-1) : Int32).toInt = tm_if ((¬ Γ (40, 7666, 0) 3 = 60 ∧ (0 ≤ p0.toInt ∧ p0.toInt ≤ 11) ∧ (0 ≤ p1.toInt ∧ p1.toInt ≤ 299) ∧ (1 ≤ p2.toInt ∧ p2.toInt ≤ 1000)) ∧ ¬ tm_hasM (Γ (40, 7666, 0)) (Γ (40, 7666, 0) 3).toNat p0.toInt p1.toInt) (Γ (40, 7666, 0) 3 + 1) (-1) ∧ Γ (40, 7666, 0) = tm_if ((¬ Γ (40, 7666, 0) 3 = 60 ∧ (0 ≤ p0.toInt ∧ p0.toInt ≤ 11) ∧ (0 ≤ p1.toInt ∧ p1.toInt ≤ 299) ∧ (1 ≤ p2.toInt ∧ p2.toInt ≤ 1000)) ∧ ¬ tm_hasM (Γ (40, 7666, 0)) (Γ (40, 7666, 0) 3).toNat p0.toInt p1.toInt) (tgu (tgu (tgu (tgu (Γ (40, 7666, 0)) (241 + 3 * Γ (40, 7666, 0) 3 + 0).toNat (p0.toInt)) (241 + 3 * Γ (40, 7666, 0) 3 + 1).toNat (p1.toInt)) (241 + 3 * Γ (40, 7666, 0) 3 + 2).toNat (p2.toInt)) 3 (Γ (40, 7666, 0) 3 + 1)) (Γ (40, 7666, 0)) := ⟨(by rw [tm_if_f (fun q9 => by first | omega | exact q9.2 (hdn.mp (by omega)))]; rfl), (by rw [tm_if_f (fun q9 => by first | omega | exact q9.2 (hdn.mp (by omega)))])⟩
        exact W.iret (v := (-1)) hx hb hr (fun t ht hW => ⟨⟨_, (f, Γ), rfl, hpo9, by rw [ht]; exact hP, hI, hfr, hgr⟩, hS.F ht⟩) hS.2.2 dX12_line_52
      · have c_18 := hw_16.t c_18
        refine lv_iload_n hx hb dX12_line_30 rfl (lv_at hl 3 rfl) ?_
        refine lv_i2l (v := p2.toInt64) hx hb dX12_line_31 (by first | rfl | decide) ?_
        refine lv_lconst (v := 1) hx hb dX12_line_32 (by decide) ?_
        refine lv_ldc2 (v := 1000) hx hb hown (hta _ wk_326) dX12_line_33 ?_
        refine tl_si (tq_rS (As := [.long p2.toInt64, .long 1, .long 1000]) (rest := []) ⟨hx, hb, hml, hown, hta⟩ (tp_P.pre hK hN hL hU hI hP) lk_X12_112 (r_X12_in l D cy s.heap.size L K Γ f p2.toInt64 1 1000 ) rfl rfl ⟨Nat.le_of_ble_eq_true rfl, Nat.le_of_ble_eq_true rfl⟩ rfl hl.1 rfl (Nat.le_of_ble_eq_true rfl) dX12_line_36 ⟨Nat.le_of_ble_eq_true rfl, Nat.le_of_ble_eq_true rfl⟩) (fun r_20 hw_19 => ?_)
        simp only [Int32.toInt_toInt64] at hw_19
        have hw_19 : tl_E r_20 ((1 : Int) ≤ p2.toInt ∧ p2.toInt ≤ (1000 : Int)) 1 0 := hw_19
        refine lv_if_eq (tgt := 51) hx hb dX12_line_39 (by decide) (fun c_21 => ?_) (fun c_21 => ?_)
        · have c_21 := hw_19.f c_21
          refine lv_iconst (v := (-1)) hx hb dX12_line_51 (by decide) ?_
          have hpo9 : ((-1) : Int32).toInt = tm_if ((¬ Γ (40, 7666, 0) 3 = 60 ∧ (0 ≤ p0.toInt ∧ p0.toInt ≤ 11) ∧ (0 ≤ p1.toInt ∧ p1.toInt ≤ 299) ∧ (1 ≤ p2.toInt ∧ p2.toInt ≤ 1000)) ∧ ¬ tm_hasM (Γ (40, 7666, 0)) (Γ (40, 7666, 0) 3).toNat p0.toInt p1.toInt) (Γ (40, 7666, 0) 3 + 1) (-1) ∧ Γ (40, 7666, 0) = tm_if ((¬ Γ (40, 7666, 0) 3 = 60 ∧ (0 ≤ p0.toInt ∧ p0.toInt ≤ 11) ∧ (0 ≤ p1.toInt ∧ p1.toInt ≤ 299) ∧ (1 ≤ p2.toInt ∧ p2.toInt ≤ 1000)) ∧ ¬ tm_hasM (Γ (40, 7666, 0)) (Γ (40, 7666, 0) 3).toNat p0.toInt p1.toInt) (tgu (tgu (tgu (tgu (Γ (40, 7666, 0)) (241 + 3 * Γ (40, 7666, 0) 3 + 0).toNat (p0.toInt)) (241 + 3 * Γ (40, 7666, 0) 3 + 1).toNat (p1.toInt)) (241 + 3 * Γ (40, 7666, 0) 3 + 2).toNat (p2.toInt)) 3 (Γ (40, 7666, 0) 3 + 1)) (Γ (40, 7666, 0)) := ⟨(by rw [tm_if_f (fun q9 => by first | omega | exact q9.2 (hdn.mp (by omega)))]; rfl), (by rw [tm_if_f (fun q9 => by first | omega | exact q9.2 (hdn.mp (by omega)))])⟩
          exact W.iret (v := (-1)) hx hb hr (fun t ht hW => ⟨⟨_, (f, Γ), rfl, hpo9, by rw [ht]; exact hP, hI, hfr, hgr⟩, hS.F ht⟩) hS.2.2 dX12_line_52
        · have c_21 := hw_19.t c_21
          refine lv_aload_n hx hb dX12_line_42 rfl (lv_at hl 0 rfl) ?_
          refine lv_iload_n hx hb dX12_line_43 rfl (lv_at hl 1 rfl) ?_
          refine lv_iload_n hx hb dX12_line_44 rfl (lv_at hl 2 rfl) ?_
          refine tl_si (tq_rV (As := [.int p0, .int p1]) (rest := []) ⟨hx, hb, hml, hown, hta⟩ (tp_P.pre hK hN hL hU hI hP) (tp_recv hK hP ho.1 hf_1 rfl) lk_X12_150 (r_depthOf2 l D cy s.heap.size L K Γ f o p0 p1 ho (by first | omega | (simp only [Int32.toInt_toInt64]; omega) | decide | assumption) (by first | omega | (simp only [Int32.toInt_toInt64]; omega) | decide | assumption)) rfl rfl ⟨Nat.le_of_ble_eq_true rfl, Nat.le_of_ble_eq_true rfl⟩ rfl hl.1 rfl (Nat.le_of_ble_eq_true rfl) dX12_line_45 ⟨Nat.le_of_ble_eq_true rfl, Nat.le_of_ble_eq_true rfl⟩) (fun r_23 hw_22 => ?_)
          have hdn : 0 < r_23.toInt ↔ tm_hasM (Γ (40, 7666, 0)) (Γ (40, 7666, 0) 3).toNat p0.toInt p1.toInt := hw_22
          have hw_22 : 0 < r_23.toInt ↔ tm_hasM (Γ (40, 7666, 0)) (Γ (40, 7666, 0) 3).toNat p0.toInt p1.toInt := hw_22
          refine lv_if_le (tgt := 53) hx hb dX12_line_48 (by decide) (fun c_24 => ?_) (fun c_24 => ?_)
          · have c_24 : r_23.toInt ≤ (0 : Int) := tl_le c_24
            refine lv_sipush (v := 241) hx hb dX12_line_53 (by decide) ?_
            refine lv_iconst (v := 3) hx hb dX12_line_56 (by decide) ?_
            refine lv_aload_n hx hb dX12_line_57 rfl (lv_at hl 0 rfl) ?_
            refine tp_get (cy := cy) (ci := 12) (v := .ref (r_2 0)) (C := RX12) (T := TX12) (N := 49) hx hb hta inlX12 hown hK hP ho.1 hf_1 rfl 0 (by decide) (hta _ wk_149) (fun _ h9 => h9) rfl dX12_line_58 ?_
            refine lv_iconst (v := 3) hx hb dX12_line_61 (by decide) ?_
            have hn_25 : vp_in 3 (7666) := tl_in (by decide) (by decide)
            refine tp_iald (cy := cy) hx hb hK hP (show tp_r L K 40 7666 0 (r_2 0) from hr_5 0 (by decide)).1 hf_7 hn_25 dX12_line_62 ?_
            refine lv_topi (fun z_26 ez_26 => ?_)
            obtain rfl : z_11 = z_26 := ez_11.trans ez_26.symm
            refine lv_imul hx hb dX12_line_63 ?_
            refine lv_topi (fun z_27 ez_27 => ?_)
            try have iz_27 : z_27.toInt = (3 : Int) * z_11.toInt := by rw [ez_27]; exact tl_mulN 3 z_11 rfl rfl (by omega) (by omega)
            refine lv_iadd hx hb dX12_line_64 ?_
            refine lv_topi (fun z_28 ez_28 => ?_)
            try have iz_28 : z_28.toInt = (241 : Int) + z_27.toInt := by rw [ez_28]; exact tl_addN 241 z_27 rfl rfl (by omega) (by omega)
            refine lv_istore (lv' := [(4, .int z_28), (0, .ref o), (1, .int p0), (2, .int p1), (3, .int p2)]) hx hb dX12_line_65 hl (by decide) rfl (fun ls hl => ?_)
            refine lv_aload_n hx hb dX12_line_67 rfl (lv_at hl 1 rfl) ?_
            refine tp_get (cy := cy) (ci := 12) (v := .ref (r_2 0)) (C := RX12) (T := TX12) (N := 49) hx hb hta inlX12 hown hK hP ho.1 hf_1 rfl 0 (by decide) (hta _ wk_149) (fun _ h9 => h9) rfl dX12_line_68 ?_
            refine lv_iload hx hb dX12_line_71 (lv_at hl 0 rfl) ?_
            refine lv_iload_n hx hb dX12_line_73 rfl (lv_at hl 2 rfl) ?_
            have hn_29 : vp_in z_28 (7666) := tl_in (by omega) (by omega)
            have hj_30 : z_28.toNatClampNeg = (241 + 3 * Γ (40, 7666, 0) 3 + 0).toNat := by show z_28.toInt.toNat = _; omega
            have hv_31 : p0.toInt = p0.toInt := by omega
            obtain ⟨Γ_32, eΓ_32⟩ : ∃ y : tk_G, y = tg Γ (40, 7666, 0) ((241 + 3 * Γ (40, 7666, 0) 3 + 0).toNat) p0.toInt := ⟨_, rfl⟩
            have hI9 : tp_I cy L K Γ_32 (va_up f (r_2 0) (.inl (cy 0, 7666, .inl (upd g_8 z_28.toNatClampNeg p0)))) := by have q9 : tg Γ (40, 7666, 0) ((241 + 3 * Γ (40, 7666, 0) 3 + 0).toNat) p0.toInt = tg Γ (40, 7666, 0) z_28.toNatClampNeg p0.toInt := (by rw [hj_30, hv_31]); rw [eΓ_32, q9]; exact hI.setg hU rfl (show tp_r L K 40 7666 0 (r_2 0) from hr_5 0 (by decide)) (show tp_gi cy (7666) (tgu (Γ (40, 7666, 0)) _ _) _ from ⟨_, rfl, tp_gi_upd hg_9⟩)
            have hfr9 : ∀ b, (K b).1 ∉ ([40] : List Nat) → va_up f (r_2 0) (.inl (cy 0, 7666, .inl (upd g_8 z_28.toNatClampNeg p0))) b = f b := tp_fr hfr (show tp_r L K 40 7666 0 (r_2 0) from hr_5 0 (by decide)) (by decide)
            refine tp_iast (cy := cy) hx hb hK hP hD hS (show tp_r L K 40 7666 0 (r_2 0) from hr_5 0 (by decide)).1 hf_7 hn_29 dX12_line_74 (fun H locs hP hD hS => ?_)
            have hP : va_P D vwCl (va_pl L (va_up f (r_2 0) (.inl (cy 0, 7666, .inl (upd g_8 z_28.toNatClampNeg p0))))) H := hP
            generalize hfe : va_up f (r_2 0) (.inl (cy 0, 7666, .inl (upd g_8 z_28.toNatClampNeg p0))) = f_33 at hP hI9 hfr9
            have hD : va_D A (va_pl L f_33) := tp_D hL hAL
            have hf_34 : f_33 (r_2 0) = .inl (cy 0, 7666, .inl (upd g_8 z_28.toNatClampNeg p0)) := by rw [← hfe]; exact va_up_self _ _ _
            clear hfe
            have hI := hI9
            have hfr := hfr9
            clear hI9 hfr9
            have wtΓ_32_3 : Γ_32 (40, 7666, 0) 3 = Γ (40, 7666, 0) 3 := by rw [eΓ_32]; exact tg_i (by omega)
            have wsΓ_32 : Γ_32 (40, 7666, 0) ((241 + 3 * Γ (40, 7666, 0) 3 + 0).toNat) = p0.toInt := by rw [eΓ_32]; exact tg_s
            have hgr : ∀ κ : tk_K, κ.1 ∉ ([40] : List Nat) → Γ_32 κ = Γ κ := tg_fr hgr eΓ_32 (by decide)
            refine lv_aload_n hx hb dX12_line_75 rfl (lv_at hl 1 rfl) ?_
            refine tp_get (cy := cy) (ci := 12) (v := .ref (r_2 0)) (C := RX12) (T := TX12) (N := 49) hx hb hta inlX12 hown hK hP ho.1 ((tp_un hfr ho (by decide)).trans hf_1) rfl 0 (by decide) (hta _ wk_149) (fun _ h9 => h9) rfl dX12_line_76 ?_
            refine lv_iload hx hb dX12_line_79 (lv_at hl 0 rfl) ?_
            refine lv_iconst (v := 1) hx hb dX12_line_81 (by decide) ?_
            refine lv_iadd hx hb dX12_line_82 ?_
            refine lv_topi (fun z_35 ez_35 => ?_)
            try have iz_35 : z_35.toInt = z_28.toInt + (1 : Int) := by rw [ez_35]; exact tl_addN z_28 1 rfl rfl (by omega) (by omega)
            refine lv_iload_n hx hb dX12_line_83 rfl (lv_at hl 3 rfl) ?_
            obtain ⟨g_37, hf_36, hg_38⟩ := (show tp_gi cy (7666) (Γ_32 (40, 7666, 0)) (f_33 (r_2 0)) from hI.at (show tp_r L K 40 7666 0 (r_2 0) from hr_5 0 (by decide)))
            have hn_39 : vp_in z_35 (7666) := tl_in (by omega) (by omega)
            have hj_40 : z_35.toNatClampNeg = (241 + 3 * Γ (40, 7666, 0) 3 + 1).toNat := by show z_35.toInt.toNat = _; omega
            have hv_41 : p1.toInt = p1.toInt := by omega
            obtain ⟨Γ_42, eΓ_42⟩ : ∃ y : tk_G, y = tg Γ_32 (40, 7666, 0) ((241 + 3 * Γ (40, 7666, 0) 3 + 1).toNat) p1.toInt := ⟨_, rfl⟩
            have hI9 : tp_I cy L K Γ_42 (va_up f_33 (r_2 0) (.inl (cy 0, 7666, .inl (upd g_37 z_35.toNatClampNeg p1)))) := by have q9 : tg Γ_32 (40, 7666, 0) ((241 + 3 * Γ (40, 7666, 0) 3 + 1).toNat) p1.toInt = tg Γ_32 (40, 7666, 0) z_35.toNatClampNeg p1.toInt := (by rw [hj_40, hv_41]); rw [eΓ_42, q9]; exact hI.setg hU rfl (show tp_r L K 40 7666 0 (r_2 0) from hr_5 0 (by decide)) (show tp_gi cy (7666) (tgu (Γ_32 (40, 7666, 0)) _ _) _ from ⟨_, rfl, tp_gi_upd hg_38⟩)
            have hfr9 : ∀ b, (K b).1 ∉ ([40] : List Nat) → va_up f_33 (r_2 0) (.inl (cy 0, 7666, .inl (upd g_37 z_35.toNatClampNeg p1))) b = f b := tp_fr hfr (show tp_r L K 40 7666 0 (r_2 0) from hr_5 0 (by decide)) (by decide)
            refine tp_iast (cy := cy) hx hb hK hP hD hS (show tp_r L K 40 7666 0 (r_2 0) from hr_5 0 (by decide)).1 hf_36 hn_39 dX12_line_84 (fun H locs hP hD hS => ?_)
            have hP : va_P D vwCl (va_pl L (va_up f_33 (r_2 0) (.inl (cy 0, 7666, .inl (upd g_37 z_35.toNatClampNeg p1))))) H := hP
            generalize hfe : va_up f_33 (r_2 0) (.inl (cy 0, 7666, .inl (upd g_37 z_35.toNatClampNeg p1))) = f_43 at hP hI9 hfr9
            have hD : va_D A (va_pl L f_43) := tp_D hL hAL
            have hf_44 : f_43 (r_2 0) = .inl (cy 0, 7666, .inl (upd g_37 z_35.toNatClampNeg p1)) := by rw [← hfe]; exact va_up_self _ _ _
            clear hfe
            have hI := hI9
            have hfr := hfr9
            clear hI9 hfr9
            have wtΓ_42_3 : Γ_42 (40, 7666, 0) 3 = Γ_32 (40, 7666, 0) 3 := by rw [eΓ_42]; exact tg_i (by omega)
            have wsΓ_42 : Γ_42 (40, 7666, 0) ((241 + 3 * Γ (40, 7666, 0) 3 + 1).toNat) = p1.toInt := by rw [eΓ_42]; exact tg_s
            have hgr : ∀ κ : tk_K, κ.1 ∉ ([40] : List Nat) → Γ_42 κ = Γ κ := tg_fr hgr eΓ_42 (by decide)
            refine lv_aload_n hx hb dX12_line_85 rfl (lv_at hl 1 rfl) ?_
            refine tp_get (cy := cy) (ci := 12) (v := .ref (r_2 0)) (C := RX12) (T := TX12) (N := 49) hx hb hta inlX12 hown hK hP ho.1 ((tp_un hfr ho (by decide)).trans hf_1) rfl 0 (by decide) (hta _ wk_149) (fun _ h9 => h9) rfl dX12_line_86 ?_
            refine lv_iload hx hb dX12_line_89 (lv_at hl 0 rfl) ?_
            refine lv_iconst (v := 2) hx hb dX12_line_91 (by decide) ?_
            refine lv_iadd hx hb dX12_line_92 ?_
            refine lv_topi (fun z_45 ez_45 => ?_)
            try have iz_45 : z_45.toInt = z_28.toInt + (2 : Int) := by rw [ez_45]; exact tl_addN z_28 2 rfl rfl (by omega) (by omega)
            refine lv_iload_n hx hb dX12_line_93 rfl (lv_at hl 4 rfl) ?_
            obtain ⟨g_47, hf_46, hg_48⟩ := (show tp_gi cy (7666) (Γ_42 (40, 7666, 0)) (f_43 (r_2 0)) from hI.at (show tp_r L K 40 7666 0 (r_2 0) from hr_5 0 (by decide)))
            have hn_49 : vp_in z_45 (7666) := tl_in (by omega) (by omega)
            have hj_50 : z_45.toNatClampNeg = (241 + 3 * Γ (40, 7666, 0) 3 + 2).toNat := by show z_45.toInt.toNat = _; omega
            have hv_51 : p2.toInt = p2.toInt := by omega
            obtain ⟨Γ_52, eΓ_52⟩ : ∃ y : tk_G, y = tg Γ_42 (40, 7666, 0) ((241 + 3 * Γ (40, 7666, 0) 3 + 2).toNat) p2.toInt := ⟨_, rfl⟩
            have hI9 : tp_I cy L K Γ_52 (va_up f_43 (r_2 0) (.inl (cy 0, 7666, .inl (upd g_47 z_45.toNatClampNeg p2)))) := by have q9 : tg Γ_42 (40, 7666, 0) ((241 + 3 * Γ (40, 7666, 0) 3 + 2).toNat) p2.toInt = tg Γ_42 (40, 7666, 0) z_45.toNatClampNeg p2.toInt := (by rw [hj_50, hv_51]); rw [eΓ_52, q9]; exact hI.setg hU rfl (show tp_r L K 40 7666 0 (r_2 0) from hr_5 0 (by decide)) (show tp_gi cy (7666) (tgu (Γ_42 (40, 7666, 0)) _ _) _ from ⟨_, rfl, tp_gi_upd hg_48⟩)
            have hfr9 : ∀ b, (K b).1 ∉ ([40] : List Nat) → va_up f_43 (r_2 0) (.inl (cy 0, 7666, .inl (upd g_47 z_45.toNatClampNeg p2))) b = f b := tp_fr hfr (show tp_r L K 40 7666 0 (r_2 0) from hr_5 0 (by decide)) (by decide)
            refine tp_iast (cy := cy) hx hb hK hP hD hS (show tp_r L K 40 7666 0 (r_2 0) from hr_5 0 (by decide)).1 hf_46 hn_49 dX12_line_94 (fun H locs hP hD hS => ?_)
            have hP : va_P D vwCl (va_pl L (va_up f_43 (r_2 0) (.inl (cy 0, 7666, .inl (upd g_47 z_45.toNatClampNeg p2))))) H := hP
            generalize hfe : va_up f_43 (r_2 0) (.inl (cy 0, 7666, .inl (upd g_47 z_45.toNatClampNeg p2))) = f_53 at hP hI9 hfr9
            have hD : va_D A (va_pl L f_53) := tp_D hL hAL
            have hf_54 : f_53 (r_2 0) = .inl (cy 0, 7666, .inl (upd g_47 z_45.toNatClampNeg p2)) := by rw [← hfe]; exact va_up_self _ _ _
            clear hfe
            have hI := hI9
            have hfr := hfr9
            clear hI9 hfr9
            have wtΓ_52_3 : Γ_52 (40, 7666, 0) 3 = Γ_42 (40, 7666, 0) 3 := by rw [eΓ_52]; exact tg_i (by omega)
            have wsΓ_52 : Γ_52 (40, 7666, 0) ((241 + 3 * Γ (40, 7666, 0) 3 + 2).toNat) = p2.toInt := by rw [eΓ_52]; exact tg_s
            have hgr : ∀ κ : tk_K, κ.1 ∉ ([40] : List Nat) → Γ_52 κ = Γ κ := tg_fr hgr eΓ_52 (by decide)
            refine lv_aload_n hx hb dX12_line_95 rfl (lv_at hl 1 rfl) ?_
            refine tp_get (cy := cy) (ci := 12) (v := .ref (r_2 0)) (C := RX12) (T := TX12) (N := 49) hx hb hta inlX12 hown hK hP ho.1 ((tp_un hfr ho (by decide)).trans hf_1) rfl 0 (by decide) (hta _ wk_149) (fun _ h9 => h9) rfl dX12_line_96 ?_
            refine lv_iconst (v := 3) hx hb dX12_line_99 (by decide) ?_
            refine lv_dup2_11 hx hb dX12_line_100 rfl rfl ?_
            obtain ⟨g_56, hf_55, hg_57⟩ := (show tp_gi cy (7666) (Γ_52 (40, 7666, 0)) (f_53 (r_2 0)) from hI.at (show tp_r L K 40 7666 0 (r_2 0) from hr_5 0 (by decide)))
            have hn_58 : vp_in 3 (7666) := tl_in (by decide) (by decide)
            refine tp_iald (cy := cy) hx hb hK hP (show tp_r L K 40 7666 0 (r_2 0) from hr_5 0 (by decide)).1 hf_55 hn_58 dX12_line_101 ?_
            refine lv_topi (fun z_59 ez_59 => ?_)
            have iz_59 : z_59.toInt = Γ_52 (40, 7666, 0) 3 := by rw [ez_59]; exact hg_57 _ (tp_pin hn_58)
            refine lv_iconst (v := 1) hx hb dX12_line_102 (by decide) ?_
            refine lv_iadd hx hb dX12_line_103 ?_
            refine lv_topi (fun z_60 ez_60 => ?_)
            try have iz_60 : z_60.toInt = z_59.toInt + (1 : Int) := by rw [ez_60]; exact tl_addN z_59 1 rfl rfl (by omega) (by omega)
            have hn_61 : vp_in 3 (7666) := tl_in (by decide) (by decide)
            have hj_62 : (3 : Int32).toNatClampNeg = 3 := by decide
            have hv_63 : z_60.toInt = Γ (40, 7666, 0) 3 + 1 := by omega
            obtain ⟨Γ_64, eΓ_64⟩ : ∃ y : tk_G, y = tg Γ_52 (40, 7666, 0) 3 (Γ (40, 7666, 0) 3 + 1) := ⟨_, rfl⟩
            have hI9 : tp_I cy L K Γ_64 (va_up f_53 (r_2 0) (.inl (cy 0, 7666, .inl (upd g_56 (3 : Int32).toNatClampNeg z_60)))) := by have q9 : tg Γ_52 (40, 7666, 0) 3 (Γ (40, 7666, 0) 3 + 1) = tg Γ_52 (40, 7666, 0) (3 : Int32).toNatClampNeg z_60.toInt := (by rw [hj_62, hv_63]); rw [eΓ_64, q9]; exact hI.setg hU rfl (show tp_r L K 40 7666 0 (r_2 0) from hr_5 0 (by decide)) (show tp_gi cy (7666) (tgu (Γ_52 (40, 7666, 0)) _ _) _ from ⟨_, rfl, tp_gi_upd hg_57⟩)
            have hfr9 : ∀ b, (K b).1 ∉ ([40] : List Nat) → va_up f_53 (r_2 0) (.inl (cy 0, 7666, .inl (upd g_56 (3 : Int32).toNatClampNeg z_60))) b = f b := tp_fr hfr (show tp_r L K 40 7666 0 (r_2 0) from hr_5 0 (by decide)) (by decide)
            refine tp_iast (cy := cy) hx hb hK hP hD hS (show tp_r L K 40 7666 0 (r_2 0) from hr_5 0 (by decide)).1 hf_55 hn_61 dX12_line_104 (fun H locs hP hD hS => ?_)
            have hP : va_P D vwCl (va_pl L (va_up f_53 (r_2 0) (.inl (cy 0, 7666, .inl (upd g_56 (3 : Int32).toNatClampNeg z_60))))) H := hP
            generalize hfe : va_up f_53 (r_2 0) (.inl (cy 0, 7666, .inl (upd g_56 (3 : Int32).toNatClampNeg z_60))) = f_65 at hP hI9 hfr9
            have hD : va_D A (va_pl L f_65) := tp_D hL hAL
            have hf_66 : f_65 (r_2 0) = .inl (cy 0, 7666, .inl (upd g_56 (3 : Int32).toNatClampNeg z_60)) := by rw [← hfe]; exact va_up_self _ _ _
            clear hfe
            have hI := hI9
            have hfr := hfr9
            clear hI9 hfr9
            have wsΓ_64 : Γ_64 (40, 7666, 0) 3 = Γ (40, 7666, 0) 3 + 1 := by rw [eΓ_64]; exact tg_s
            have hgr : ∀ κ : tk_K, κ.1 ∉ ([40] : List Nat) → Γ_64 κ = Γ κ := tg_fr hgr eΓ_64 (by decide)
            refine lv_aload_n hx hb dX12_line_105 rfl (lv_at hl 1 rfl) ?_
            refine tp_get (cy := cy) (ci := 12) (v := .ref (r_2 0)) (C := RX12) (T := TX12) (N := 49) hx hb hta inlX12 hown hK hP ho.1 ((tp_un hfr ho (by decide)).trans hf_1) rfl 0 (by decide) (hta _ wk_149) (fun _ h9 => h9) rfl dX12_line_106 ?_
            refine lv_iconst (v := 3) hx hb dX12_line_109 (by decide) ?_
            obtain ⟨g_68, hf_67, hg_69⟩ := (show tp_gi cy (7666) (Γ_64 (40, 7666, 0)) (f_65 (r_2 0)) from hI.at (show tp_r L K 40 7666 0 (r_2 0) from hr_5 0 (by decide)))
            have hn_70 : vp_in 3 (7666) := tl_in (by decide) (by decide)
            refine tp_iald (cy := cy) hx hb hK hP (show tp_r L K 40 7666 0 (r_2 0) from hr_5 0 (by decide)).1 hf_67 hn_70 dX12_line_110 ?_
            refine lv_topi (fun z_71 ez_71 => ?_)
            have iz_71 : z_71.toInt = Γ_64 (40, 7666, 0) 3 := by rw [ez_71]; exact hg_69 _ (tp_pin hn_70)
            have hpo9 : (z_71 : Int32).toInt = tm_if ((¬ Γ (40, 7666, 0) 3 = 60 ∧ (0 ≤ p0.toInt ∧ p0.toInt ≤ 11) ∧ (0 ≤ p1.toInt ∧ p1.toInt ≤ 299) ∧ (1 ≤ p2.toInt ∧ p2.toInt ≤ 1000)) ∧ ¬ tm_hasM (Γ (40, 7666, 0)) (Γ (40, 7666, 0) 3).toNat p0.toInt p1.toInt) (Γ (40, 7666, 0) 3 + 1) (-1) ∧ Γ_64 (40, 7666, 0) = tm_if ((¬ Γ (40, 7666, 0) 3 = 60 ∧ (0 ≤ p0.toInt ∧ p0.toInt ≤ 11) ∧ (0 ≤ p1.toInt ∧ p1.toInt ≤ 299) ∧ (1 ≤ p2.toInt ∧ p2.toInt ≤ 1000)) ∧ ¬ tm_hasM (Γ (40, 7666, 0)) (Γ (40, 7666, 0) 3).toNat p0.toInt p1.toInt) (tgu (tgu (tgu (tgu (Γ (40, 7666, 0)) (241 + 3 * Γ (40, 7666, 0) 3 + 0).toNat (p0.toInt)) (241 + 3 * Γ (40, 7666, 0) 3 + 1).toNat (p1.toInt)) (241 + 3 * Γ (40, 7666, 0) 3 + 2).toNat (p2.toInt)) 3 (Γ (40, 7666, 0) 3 + 1)) (Γ (40, 7666, 0)) := ⟨(by rw [tm_if_t ⟨by omega, fun q9 => absurd (hdn.mpr q9) (by omega)⟩]; omega), (by rw [tm_if_t ⟨by omega, fun q9 => absurd (hdn.mpr q9) (by omega)⟩, eΓ_64, tg_f, eΓ_52, tg_f, eΓ_42, tg_f, eΓ_32, tg_f])⟩
            exact W.iret (v := z_71) hx hb hr (fun t ht hW => ⟨⟨_, (f_65, Γ_64), rfl, hpo9, by rw [ht]; exact hP, hI, hfr, hgr⟩, hS.F ht⟩) hS.2.2 dX12_line_111
          · have c_24 : (0 : Int) < r_23.toInt := tl_nle c_24
            refine lv_iconst (v := (-1)) hx hb dX12_line_51 (by decide) ?_
            have hpo9 : ((-1) : Int32).toInt = tm_if ((¬ Γ (40, 7666, 0) 3 = 60 ∧ (0 ≤ p0.toInt ∧ p0.toInt ≤ 11) ∧ (0 ≤ p1.toInt ∧ p1.toInt ≤ 299) ∧ (1 ≤ p2.toInt ∧ p2.toInt ≤ 1000)) ∧ ¬ tm_hasM (Γ (40, 7666, 0)) (Γ (40, 7666, 0) 3).toNat p0.toInt p1.toInt) (Γ (40, 7666, 0) 3 + 1) (-1) ∧ Γ (40, 7666, 0) = tm_if ((¬ Γ (40, 7666, 0) 3 = 60 ∧ (0 ≤ p0.toInt ∧ p0.toInt ≤ 11) ∧ (0 ≤ p1.toInt ∧ p1.toInt ≤ 299) ∧ (1 ≤ p2.toInt ∧ p2.toInt ≤ 1000)) ∧ ¬ tm_hasM (Γ (40, 7666, 0)) (Γ (40, 7666, 0) 3).toNat p0.toInt p1.toInt) (tgu (tgu (tgu (tgu (Γ (40, 7666, 0)) (241 + 3 * Γ (40, 7666, 0) 3 + 0).toNat (p0.toInt)) (241 + 3 * Γ (40, 7666, 0) 3 + 1).toNat (p1.toInt)) (241 + 3 * Γ (40, 7666, 0) 3 + 2).toNat (p2.toInt)) 3 (Γ (40, 7666, 0) 3 + 1)) (Γ (40, 7666, 0)) := ⟨(by rw [tm_if_f (fun q9 => by first | omega | exact q9.2 (hdn.mp (by omega)))]; rfl), (by rw [tm_if_f (fun q9 => by first | omega | exact q9.2 (hdn.mp (by omega)))])⟩
            exact W.iret (v := (-1)) hx hb hr (fun t ht hW => ⟨⟨_, (f, Γ), rfl, hpo9, by rw [ht]; exact hP, hI, hfr, hgr⟩, hS.F ht⟩) hS.2.2 dX12_line_52

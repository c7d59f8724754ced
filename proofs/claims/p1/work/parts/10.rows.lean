set_option maxHeartbeats 4000000 in
set_option maxRecDepth 100000 in
theorem c_X4_add (l : Launch) (D : va_G) (cy : Nat → ClassId) (sz : Nat) (o : Nat) (p0 : Int32) (p1 : Int32) (p2 : Int32) (rg : Nat) (rh : Nat) (rk : Nat) (rr : Nat) (r : Nat → Nat)  : Met l yX4_add (tl_w yX4_add cX4_add 4 (some .int)) ({ frames := 1, cells := 0, slots := 0, locals := 23 }) (va_Pc [.ref o, .int p0, .int p1, .int p2] (tl_P D cy [(o, .inr (4, [.int 0, .int 0, .ref rg, .ref rh, .ref rk, .ref rr])), (rg, .inl (cy 0, 24, .inl (fun _ => 0))), (rh, .inl (cy 0, 24, .inl (fun _ => 0))), (rk, .inl (cy 0, 24, .inl (fun _ => 0))), (rr, .inl (cy 6, 24, .inr (.inr (.inr (.inr (fun i => if i < 24 then some (r i) else none)))))), ((r 0), .inl (cy 0, 300, .inl (fun _ => 0)))] sz)) (va_Qi (fun (r : Int32) (u : Unit) => r = 0) (tl_B D (va_A [(o, .inr (4, [.int 0, .int 0, .ref rg, .ref rh, .ref rk, .ref rr])), (rg, .inl (cy 0, 24, .inl (fun _ => 0))), (rh, .inl (cy 0, 24, .inl (fun _ => 0))), (rk, .inl (cy 0, 24, .inl (fun _ => 0))), (rr, .inl (cy 6, 24, .inr (.inr (.inr (.inr (fun i => if i < 24 then some (r i) else none)))))), ((r 0), .inl (cy 0, 300, .inl (fun _ => 0)))] sz) (fun u : Unit => [])) (va_A [(o, .inr (4, [.int 0, .int 0, .ref rg, .ref rh, .ref rk, .ref rr])), (rg, .inl (cy 0, 24, .inl (fun _ => 0))), (rh, .inl (cy 0, 24, .inl (fun _ => 0))), (rk, .inl (cy 0, 24, .inl (fun _ => 0))), (rr, .inl (cy 6, 24, .inr (.inr (.inr (.inr (fun i => if i < 24 then some (r i) else none)))))), ((r 0), .inl (cy 0, 300, .inl (fun _ => 0)))] sz)) 0 0 (va_A [(o, .inr (4, [.int 0, .int 0, .ref rg, .ref rh, .ref rk, .ref rr])), (rg, .inl (cy 0, 24, .inl (fun _ => 0))), (rh, .inl (cy 0, 24, .inl (fun _ => 0))), (rk, .inl (cy 0, 24, .inl (fun _ => 0))), (rr, .inl (cy 6, 24, .inr (.inr (.inr (.inr (fun i => if i < 24 then some (r i) else none)))))), ((r 0), .inl (cy 0, 300, .inl (fun _ => 0)))] sz) := by
  refine Met.ofW (cc := cX4_add) (maxL := 4) (ret := (some .int)) (by decide) rfl ?_
  intro p e s m args below meth c s₁ B hml hv
  obtain ⟨rfl, hsz, hP, hK, hD0, hN⟩ := hv
  have hx := B.exec
  have hb := B.bytes
  have hr := B.returns
  have hta := tl_hta (atoms_spec (ws := tl_w yX4_add cX4_add 4 (some .int)) B.pre)
  have hown : s.vm.findClass RX4 = some m.cls := findClass_of_methodNamed B.named
  have hlocks := B.notSynchronized
  subst hsz
  have hD := hD0.self (sz := s.heap.size)
  generalize hAe : va_A [(o, .inr (4, [.int 0, .int 0, .ref rg, .ref rh, .ref rk, .ref rr])), (rg, .inl (cy 0, 24, .inl (fun _ => 0))), (rh, .inl (cy 0, 24, .inl (fun _ => 0))), (rk, .inl (cy 0, 24, .inl (fun _ => 0))), (rr, .inl (cy 6, 24, .inr (.inr (.inr (.inr (fun i => if i < 24 then some (r i) else none)))))), ((r 0), .inl (cy 0, 300, .inl (fun _ => 0)))] s.heap.size = A at hD ⊢
  have hA : ∀ q : Nat, s.heap.size ≤ q → A q := fun q h => by rw [← hAe]; exact Or.inr h
  have hS : va_S A s.heap s.heap [] := va_S.rf
  have hP : va_P D vwCl [(o, .inr (4, [.int 0, .int 0, .ref rg, .ref rh, .ref rk, .ref rr])), (rg, .inl (cy 0, 24, .inl (fun _ => 0))), (rh, .inl (cy 0, 24, .inl (fun _ => 0))), (rk, .inl (cy 0, 24, .inl (fun _ => 0))), (rr, .inl (cy 6, 24, .inr (.inr (.inr (.inr (fun i => if i < 24 then some (r i) else none)))))), ((r 0), .inl (cy 0, 300, .inl (fun _ => 0)))] s.heap := hP
  have hl := lv_entry ([.ref o, .int p0, .int p1, .int p2]) (n := 4) (Nat.le_of_ble_eq_true rfl)
  rw [lg_entry_eq]
  generalize (lg_sl ([.ref o, .int p0, .int p1, .int p2]) ++ List.replicate (4 - (lg_sl ([.ref o, .int p0, .int p1, .int p2])).length) Slot.unset).toArray = ls at hl ⊢
  have hl : lv_has ls 4 [(0, .ref o), (1, .int p0), (2, .int p1), (3, .int p2)] := hl
  refine lv_aload_n hx hb dX4_add_0 rfl (lv_at hl 0 rfl) ?_
  refine va_get (D := D) (ci := 4) (v := .int 0) (C := RX4) (T := TX4) (N := 6) hx hb hta inlX4 hown hK hP 0 rfl rfl 0 (by decide) (hta _ wk_211) (fun _ h9 => h9) rfl dX4_add_1 ?_
  refine lv_bipush (v := 24) hx hb dX4_add_4 (by decide) ?_
  refine lv_icmp_lt (tgt := 11) hx hb dX4_add_6 (by decide) (fun _ => ?_) (fun c => absurd c (by decide))
  refine lv_aload_n hx hb dX4_add_11 rfl (lv_at hl 0 rfl) ?_
  refine va_get (D := D) (ci := 4) (v := .ref rg) (C := RX4) (T := TX4) (N := 6) hx hb hta inlX4 hown hK hP 0 rfl rfl 2 (by decide) (hta _ wk_73) (fun _ h9 => h9) rfl dX4_add_12 ?_
  refine lv_aload_n hx hb dX4_add_15 rfl (lv_at hl 0 rfl) ?_
  refine va_get (D := D) (ci := 4) (v := .int 0) (C := RX4) (T := TX4) (N := 6) hx hb hta inlX4 hown hK hP 0 rfl rfl 0 (by decide) (hta _ wk_211) (fun _ h9 => h9) rfl dX4_add_16 ?_
  refine lv_iload_n hx hb dX4_add_19 rfl (lv_at hl 1 rfl) ?_
  refine va_iast (D := D) hx hb hK hP hD hS 1 0 rfl rfl (tl_in (by decide) (by decide)) dX4_add_20 (fun H locs hP hD hS => ?_)
  have hP : va_P D vwCl [(o, .inr (4, [.int 0, .int 0, .ref rg, .ref rh, .ref rk, .ref rr])), (rg, .inl (cy 0, 24, .inl (upd (fun _ => 0) (0 : Int32).toNatClampNeg p0))), (rh, .inl (cy 0, 24, .inl (fun _ => 0))), (rk, .inl (cy 0, 24, .inl (fun _ => 0))), (rr, .inl (cy 6, 24, .inr (.inr (.inr (.inr (fun i => if i < 24 then some (r i) else none)))))), ((r 0), .inl (cy 0, 300, .inl (fun _ => 0)))] H := hP
  have hD : va_D A [(o, .inr (4, [.int 0, .int 0, .ref rg, .ref rh, .ref rk, .ref rr])), (rg, .inl (cy 0, 24, .inl (upd (fun _ => 0) (0 : Int32).toNatClampNeg p0))), (rh, .inl (cy 0, 24, .inl (fun _ => 0))), (rk, .inl (cy 0, 24, .inl (fun _ => 0))), (rr, .inl (cy 6, 24, .inr (.inr (.inr (.inr (fun i => if i < 24 then some (r i) else none)))))), ((r 0), .inl (cy 0, 300, .inl (fun _ => 0)))] := hD
  generalize (upd (fun _ => 0) (0 : Int32).toNatClampNeg p0) = f_1 at hP hD
  refine lv_aload_n hx hb dX4_add_21 rfl (lv_at hl 0 rfl) ?_
  refine va_get (D := D) (ci := 4) (v := .ref rh) (C := RX4) (T := TX4) (N := 6) hx hb hta inlX4 hown hK hP 0 rfl rfl 3 (by decide) (hta _ wk_74) (fun _ h9 => h9) rfl dX4_add_22 ?_
  refine lv_aload_n hx hb dX4_add_25 rfl (lv_at hl 0 rfl) ?_
  refine va_get (D := D) (ci := 4) (v := .int 0) (C := RX4) (T := TX4) (N := 6) hx hb hta inlX4 hown hK hP 0 rfl rfl 0 (by decide) (hta _ wk_211) (fun _ h9 => h9) rfl dX4_add_26 ?_
  refine lv_iload_n hx hb dX4_add_29 rfl (lv_at hl 2 rfl) ?_
  refine va_iast (D := D) hx hb hK hP hD hS 2 0 rfl rfl (tl_in (by decide) (by decide)) dX4_add_30 (fun H locs hP hD hS => ?_)
  have hP : va_P D vwCl [(o, .inr (4, [.int 0, .int 0, .ref rg, .ref rh, .ref rk, .ref rr])), (rg, .inl (cy 0, 24, .inl f_1)), (rh, .inl (cy 0, 24, .inl (upd (fun _ => 0) (0 : Int32).toNatClampNeg p1))), (rk, .inl (cy 0, 24, .inl (fun _ => 0))), (rr, .inl (cy 6, 24, .inr (.inr (.inr (.inr (fun i => if i < 24 then some (r i) else none)))))), ((r 0), .inl (cy 0, 300, .inl (fun _ => 0)))] H := hP
  have hD : va_D A [(o, .inr (4, [.int 0, .int 0, .ref rg, .ref rh, .ref rk, .ref rr])), (rg, .inl (cy 0, 24, .inl f_1)), (rh, .inl (cy 0, 24, .inl (upd (fun _ => 0) (0 : Int32).toNatClampNeg p1))), (rk, .inl (cy 0, 24, .inl (fun _ => 0))), (rr, .inl (cy 6, 24, .inr (.inr (.inr (.inr (fun i => if i < 24 then some (r i) else none)))))), ((r 0), .inl (cy 0, 300, .inl (fun _ => 0)))] := hD
  generalize (upd (fun _ => 0) (0 : Int32).toNatClampNeg p1) = f_2 at hP hD
  refine lv_aload_n hx hb dX4_add_31 rfl (lv_at hl 0 rfl) ?_
  refine va_get (D := D) (ci := 4) (v := .ref rk) (C := RX4) (T := TX4) (N := 6) hx hb hta inlX4 hown hK hP 0 rfl rfl 4 (by decide) (hta _ wk_75) (fun _ h9 => h9) rfl dX4_add_32 ?_
  refine lv_aload_n hx hb dX4_add_35 rfl (lv_at hl 0 rfl) ?_
  refine va_get (D := D) (ci := 4) (v := .int 0) (C := RX4) (T := TX4) (N := 6) hx hb hta inlX4 hown hK hP 0 rfl rfl 0 (by decide) (hta _ wk_211) (fun _ h9 => h9) rfl dX4_add_36 ?_
  refine lv_iload_n hx hb dX4_add_39 rfl (lv_at hl 3 rfl) ?_
  refine va_iast (D := D) hx hb hK hP hD hS 3 0 rfl rfl (tl_in (by decide) (by decide)) dX4_add_40 (fun H locs hP hD hS => ?_)
  have hP : va_P D vwCl [(o, .inr (4, [.int 0, .int 0, .ref rg, .ref rh, .ref rk, .ref rr])), (rg, .inl (cy 0, 24, .inl f_1)), (rh, .inl (cy 0, 24, .inl f_2)), (rk, .inl (cy 0, 24, .inl (upd (fun _ => 0) (0 : Int32).toNatClampNeg p2))), (rr, .inl (cy 6, 24, .inr (.inr (.inr (.inr (fun i => if i < 24 then some (r i) else none)))))), ((r 0), .inl (cy 0, 300, .inl (fun _ => 0)))] H := hP
  have hD : va_D A [(o, .inr (4, [.int 0, .int 0, .ref rg, .ref rh, .ref rk, .ref rr])), (rg, .inl (cy 0, 24, .inl f_1)), (rh, .inl (cy 0, 24, .inl f_2)), (rk, .inl (cy 0, 24, .inl (upd (fun _ => 0) (0 : Int32).toNatClampNeg p2))), (rr, .inl (cy 6, 24, .inr (.inr (.inr (.inr (fun i => if i < 24 then some (r i) else none)))))), ((r 0), .inl (cy 0, 300, .inl (fun _ => 0)))] := hD
  generalize (upd (fun _ => 0) (0 : Int32).toNatClampNeg p2) = f_3 at hP hD
  refine lv_aload_n hx hb dX4_add_41 rfl (lv_at hl 0 rfl) ?_
  refine va_get (D := D) (ci := 4) (v := .ref rr) (C := RX4) (T := TX4) (N := 6) hx hb hta inlX4 hown hK hP 0 rfl rfl 5 (by decide) (hta _ wk_77) (fun _ h9 => h9) rfl dX4_add_42 ?_
  refine lv_aload_n hx hb dX4_add_45 rfl (lv_at hl 0 rfl) ?_
  refine va_get (D := D) (ci := 4) (v := .int 0) (C := RX4) (T := TX4) (N := 6) hx hb hta inlX4 hown hK hP 0 rfl rfl 0 (by decide) (hta _ wk_211) (fun _ h9 => h9) rfl dX4_add_46 ?_
  refine tl_aldA (D := D) hx hb hK hP 4 rfl (tl_in (by decide) (by decide)) dX4_add_49 ?_
  refine W.eq (g2 := F0 m 50 ls ([.ref (r 0)])) rfl ?_
  refine lv_ldc (v := (-1000000)) hx hb hown (hta _ wk_212) dX4_add_50 ?_
  have hPc := hP.sub (ws' := [((r 0), .inl (cy 0, 300, .inl (fun _ => 0)))]) [5] rfl
  have hDc := hD.sub (ws' := [((r 0), .inl (cy 0, 300, .inl (fun _ => 0)))]) [5] (by decide) rfl
  refine tl_cv (wr := [(o, .inr (4, [.int 0, .int 0, .ref rg, .ref rh, .ref rk, .ref rr])), (rg, .inl (cy 0, 24, .inl f_1)), (rh, .inl (cy 0, 24, .inl f_2)), (rk, .inl (cy 0, 24, .inl f_3)), (rr, .inl (cy 6, 24, .inr (.inr (.inr (.inr (fun i => if i < 24 then some (r i) else none))))))]) _ _ hP hD hS hA [5] [0, 1, 2, 3, 4] rfl rfl (by decide) (by decide) (tl_rS (As := [.ref (r 0), .int (-1000000)]) (rest := []) ⟨hx, hb, hml, hown, hta⟩ hK hN hPc hDc lk_X4_31 (c_fill l D cy H.size 300 (r 0) (-1000000) (fun _ => 0) (by first | decide | omega | assumption)) rfl rfl ⟨Nat.le_of_ble_eq_true rfl, Nat.le_of_ble_eq_true rfl⟩ rfl hl.1 rfl (Nat.le_of_ble_eq_true rfl) dX4_add_52 ⟨Nat.le_of_ble_eq_true rfl, Nat.le_of_ble_eq_true rfl⟩) (fun u_6 H locs hw_4 hP hD hS => ?_)
  have hP : va_P D vwCl [(o, .inr (4, [.int 0, .int 0, .ref rg, .ref rh, .ref rk, .ref rr])), (rg, .inl (cy 0, 24, .inl f_1)), (rh, .inl (cy 0, 24, .inl f_2)), (rk, .inl (cy 0, 24, .inl f_3)), (rr, .inl (cy 6, 24, .inr (.inr (.inr (.inr (fun i => if i < 24 then some (r i) else none)))))), ((r 0), .inl (cy 0, 300, .inl u_6))] H := hP
  have hD : va_D A [(o, .inr (4, [.int 0, .int 0, .ref rg, .ref rh, .ref rk, .ref rr])), (rg, .inl (cy 0, 24, .inl f_1)), (rh, .inl (cy 0, 24, .inl f_2)), (rk, .inl (cy 0, 24, .inl f_3)), (rr, .inl (cy 6, 24, .inr (.inr (.inr (.inr (fun i => if i < 24 then some (r i) else none)))))), ((r 0), .inl (cy 0, 300, .inl u_6))] := hD
  refine W.widen (k := 0) (n := 0) (Nat.le_refl _) (Nat.le_refl _) ?_
  have hw_4 : ∀ j : Nat, j < 300 → u_6 j = (-1000000) := hw_4
  refine lv_aload_n hx hb dX4_add_55 rfl (lv_at hl 0 rfl) ?_
  refine lv_dup hx hb dX4_add_56 rfl ?_
  refine va_get (D := D) (ci := 4) (v := .int 0) (C := RX4) (T := TX4) (N := 6) hx hb hta inlX4 hown hK hP 0 rfl rfl 0 (by decide) (hta _ wk_211) (fun _ h9 => h9) rfl dX4_add_57 ?_
  refine lv_iconst (v := 1) hx hb dX4_add_60 (by decide) ?_
  refine lv_iadd hx hb dX4_add_61 ?_
  refine lv_topi (fun z_7 ez_7 => ?_)
  obtain rfl : z_7 = (1 : Int32) := ez_7.trans (by decide)
  refine va_put (D := D) (ci := 4) (v := .int 1) (ty := tyX4 0) (C := RX4) (T := TX4) (N := 6) hx hb hta inlX4 tyX4 tyX4_ok nmX4 hown hK hP hD hS 0 rfl rfl 0 (by decide) (hta _ wk_211) (fun _ h9 => h9) rfl (tyX4_ok 0 (by decide)) rfl rfl (Nat.le_of_ble_eq_true rfl) dX4_add_62 (fun H locs hP hD hS => ?_)
  have hP : va_P D vwCl [(o, .inr (4, [.int 1, .int 0, .ref rg, .ref rh, .ref rk, .ref rr])), (rg, .inl (cy 0, 24, .inl f_1)), (rh, .inl (cy 0, 24, .inl f_2)), (rk, .inl (cy 0, 24, .inl f_3)), (rr, .inl (cy 6, 24, .inr (.inr (.inr (.inr (fun i => if i < 24 then some (r i) else none)))))), ((r 0), .inl (cy 0, 300, .inl u_6))] H := hP
  have hD : va_D A [(o, .inr (4, [.int 1, .int 0, .ref rg, .ref rh, .ref rk, .ref rr])), (rg, .inl (cy 0, 24, .inl f_1)), (rh, .inl (cy 0, 24, .inl f_2)), (rk, .inl (cy 0, 24, .inl f_3)), (rr, .inl (cy 6, 24, .inr (.inr (.inr (.inr (fun i => if i < 24 then some (r i) else none)))))), ((r 0), .inl (cy 0, 300, .inl u_6))] := hD
  refine lv_aload_n hx hb dX4_add_65 rfl (lv_at hl 0 rfl) ?_
  refine va_get (D := D) (ci := 4) (v := .int 1) (C := RX4) (T := TX4) (N := 6) hx hb hta inlX4 hown hK hP 0 rfl rfl 0 (by decide) (hta _ wk_211) (fun _ h9 => h9) rfl dX4_add_66 ?_
  refine lv_iconst (v := 1) hx hb dX4_add_69 (by decide) ?_
  refine lv_isub hx hb dX4_add_70 ?_
  refine lv_topi (fun z_8 ez_8 => ?_)
  obtain rfl : z_8 = (0 : Int32) := ez_8.trans (by decide)
  have hP9 := hP.sub (ws' := []) [] rfl
  have hD9 := hD.sub (ws' := []) [] (by decide) rfl
  exact W.iret (v := 0) hx hb hr (fun t ht hW => ⟨⟨_, (), rfl, rfl, by rw [ht]; exact hP9, hD9⟩, hS.F ht⟩) hS.2.2 dX4_add_71
set_option maxHeartbeats 4000000 in
set_option maxRecDepth 100000 in
theorem c_X11_row (l : Launch) (D : va_G) (cy : Nat → ClassId) (sz : Nat) (x : Nat) (p0 : Int32) (p1 : Int32) (b : Nat) (im : Nat) (la : Nat) (cu : Nat) (wa : Nat) (pa : Nat) (dr : Nat) (su : Nat) (mk : Nat) (vi : Nat) (re : Nat) (rd : Nat) (so : Nat) (fw : Nat) (wo : Nat) (gi : Nat) (to : Nat) (ro : Nat) (sl : Nat) (li : Nat) (ca : Nat) (ho : Nat) (ta : Nat) (rg : Nat) (rh : Nat) (rk : Nat) (rr : Nat) (r : Nat → Nat)  : Met l yX11_row (tl_w yX11_row cX11_row 3 (some .int)) ({ frames := 2, cells := 0, slots := 0, locals := 46 }) (va_Pc [.ref x, .int p0, .int p1] (tl_P D cy [(x, .inr (11, [.ref b, .ref im, .ref la, .ref cu, .ref wa, .ref pa, .ref dr, .ref su, .ref mk, .ref vi, .ref re, .ref rd, .ref so, .ref fw, .ref wo, .ref gi])), (b, .inr (0, [.int 0, .ref to, .ref ro, .ref sl, .ref li, .ref ca, .ref ho, .ref ta, .int 0])), (ro, .inr (4, [.int 0, .int 0, .ref rg, .ref rh, .ref rk, .ref rr])), (rg, .inl (cy 0, 24, .inl (fun _ => 0))), (rh, .inl (cy 0, 24, .inl (fun _ => 0))), (rk, .inl (cy 0, 24, .inl (fun _ => 0))), (rr, .inl (cy 6, 24, .inr (.inr (.inr (.inr (fun i => if i < 24 then some (r i) else none)))))), ((r 0), .inl (cy 0, 300, .inl (fun _ => 0)))] sz)) (va_Qi (fun (r : Int32) (u : Unit) => tl_E r (0 ≤ p0.toInt ∧ p0.toInt ≤ 3 ∧ 0 ≤ p1.toInt ∧ p1.toInt ≤ 999) 0 (-1)) (tl_B D (va_A [(x, .inr (11, [.ref b, .ref im, .ref la, .ref cu, .ref wa, .ref pa, .ref dr, .ref su, .ref mk, .ref vi, .ref re, .ref rd, .ref so, .ref fw, .ref wo, .ref gi])), (b, .inr (0, [.int 0, .ref to, .ref ro, .ref sl, .ref li, .ref ca, .ref ho, .ref ta, .int 0])), (ro, .inr (4, [.int 0, .int 0, .ref rg, .ref rh, .ref rk, .ref rr])), (rg, .inl (cy 0, 24, .inl (fun _ => 0))), (rh, .inl (cy 0, 24, .inl (fun _ => 0))), (rk, .inl (cy 0, 24, .inl (fun _ => 0))), (rr, .inl (cy 6, 24, .inr (.inr (.inr (.inr (fun i => if i < 24 then some (r i) else none)))))), ((r 0), .inl (cy 0, 300, .inl (fun _ => 0)))] sz) (fun u : Unit => [])) (va_A [(x, .inr (11, [.ref b, .ref im, .ref la, .ref cu, .ref wa, .ref pa, .ref dr, .ref su, .ref mk, .ref vi, .ref re, .ref rd, .ref so, .ref fw, .ref wo, .ref gi])), (b, .inr (0, [.int 0, .ref to, .ref ro, .ref sl, .ref li, .ref ca, .ref ho, .ref ta, .int 0])), (ro, .inr (4, [.int 0, .int 0, .ref rg, .ref rh, .ref rk, .ref rr])), (rg, .inl (cy 0, 24, .inl (fun _ => 0))), (rh, .inl (cy 0, 24, .inl (fun _ => 0))), (rk, .inl (cy 0, 24, .inl (fun _ => 0))), (rr, .inl (cy 6, 24, .inr (.inr (.inr (.inr (fun i => if i < 24 then some (r i) else none)))))), ((r 0), .inl (cy 0, 300, .inl (fun _ => 0)))] sz)) 0 0 (va_A [(x, .inr (11, [.ref b, .ref im, .ref la, .ref cu, .ref wa, .ref pa, .ref dr, .ref su, .ref mk, .ref vi, .ref re, .ref rd, .ref so, .ref fw, .ref wo, .ref gi])), (b, .inr (0, [.int 0, .ref to, .ref ro, .ref sl, .ref li, .ref ca, .ref ho, .ref ta, .int 0])), (ro, .inr (4, [.int 0, .int 0, .ref rg, .ref rh, .ref rk, .ref rr])), (rg, .inl (cy 0, 24, .inl (fun _ => 0))), (rh, .inl (cy 0, 24, .inl (fun _ => 0))), (rk, .inl (cy 0, 24, .inl (fun _ => 0))), (rr, .inl (cy 6, 24, .inr (.inr (.inr (.inr (fun i => if i < 24 then some (r i) else none)))))), ((r 0), .inl (cy 0, 300, .inl (fun _ => 0)))] sz) := by
  refine Met.ofW (cc := cX11_row) (maxL := 3) (ret := (some .int)) (by decide) rfl ?_
  intro p e s m args below meth c s₁ B hml hv
  obtain ⟨rfl, hsz, hP, hK, hD0, hN⟩ := hv
  have hx := B.exec
  have hb := B.bytes
  have hr := B.returns
  have hta := tl_hta (atoms_spec (ws := tl_w yX11_row cX11_row 3 (some .int)) B.pre)
  have hown : s.vm.findClass RX11 = some m.cls := findClass_of_methodNamed B.named
  have hlocks := B.notSynchronized
  subst hsz
  have hD := hD0.self (sz := s.heap.size)
  generalize hAe : va_A [(x, .inr (11, [.ref b, .ref im, .ref la, .ref cu, .ref wa, .ref pa, .ref dr, .ref su, .ref mk, .ref vi, .ref re, .ref rd, .ref so, .ref fw, .ref wo, .ref gi])), (b, .inr (0, [.int 0, .ref to, .ref ro, .ref sl, .ref li, .ref ca, .ref ho, .ref ta, .int 0])), (ro, .inr (4, [.int 0, .int 0, .ref rg, .ref rh, .ref rk, .ref rr])), (rg, .inl (cy 0, 24, .inl (fun _ => 0))), (rh, .inl (cy 0, 24, .inl (fun _ => 0))), (rk, .inl (cy 0, 24, .inl (fun _ => 0))), (rr, .inl (cy 6, 24, .inr (.inr (.inr (.inr (fun i => if i < 24 then some (r i) else none)))))), ((r 0), .inl (cy 0, 300, .inl (fun _ => 0)))] s.heap.size = A at hD ⊢
  have hA : ∀ q : Nat, s.heap.size ≤ q → A q := fun q h => by rw [← hAe]; exact Or.inr h
  have hS : va_S A s.heap s.heap [] := va_S.rf
  have hP : va_P D vwCl [(x, .inr (11, [.ref b, .ref im, .ref la, .ref cu, .ref wa, .ref pa, .ref dr, .ref su, .ref mk, .ref vi, .ref re, .ref rd, .ref so, .ref fw, .ref wo, .ref gi])), (b, .inr (0, [.int 0, .ref to, .ref ro, .ref sl, .ref li, .ref ca, .ref ho, .ref ta, .int 0])), (ro, .inr (4, [.int 0, .int 0, .ref rg, .ref rh, .ref rk, .ref rr])), (rg, .inl (cy 0, 24, .inl (fun _ => 0))), (rh, .inl (cy 0, 24, .inl (fun _ => 0))), (rk, .inl (cy 0, 24, .inl (fun _ => 0))), (rr, .inl (cy 6, 24, .inr (.inr (.inr (.inr (fun i => if i < 24 then some (r i) else none)))))), ((r 0), .inl (cy 0, 300, .inl (fun _ => 0)))] s.heap := hP
  have hl := lv_entry ([.ref x, .int p0, .int p1]) (n := 3) (Nat.le_of_ble_eq_true rfl)
  rw [lg_entry_eq]
  generalize (lg_sl ([.ref x, .int p0, .int p1]) ++ List.replicate (3 - (lg_sl ([.ref x, .int p0, .int p1])).length) Slot.unset).toArray = ls at hl ⊢
  have hl : lv_has ls 3 [(0, .ref x), (1, .int p0), (2, .int p1)] := hl
  refine lv_iload_n hx hb dX11_row_0 rfl (lv_at hl 1 rfl) ?_
  have hPc := hP.sub (ws' := []) [] rfl
  have hDc := hD.sub (ws' := []) [] (by decide) rfl
  refine tl_si (tl_rS (As := [.int p0]) (rest := []) ⟨hx, hb, hml, hown, hta⟩ hK hN hPc hDc lk_X11_102 (c_X11_isGlass l D cy s.heap.size p0 ) rfl rfl ⟨Nat.le_of_ble_eq_true rfl, Nat.le_of_ble_eq_true rfl⟩ rfl hl.1 rfl (Nat.le_of_ble_eq_true rfl) dX11_row_1 ⟨Nat.le_of_ble_eq_true rfl, Nat.le_of_ble_eq_true rfl⟩) (fun r_2 hw_1 => ?_)
  have hw_1 : tl_E r_2 (0 ≤ p0.toInt ∧ p0.toInt ≤ 3) 1 0 := hw_1
  refine lv_if_eq (tgt := 18) hx hb dX11_row_4 (by decide) (fun c_3 => ?_) (fun c_3 => ?_)
  · have c_3 := hw_1.f c_3
    refine lv_iconst (v := (-1)) hx hb dX11_row_18 (by decide) ?_
    have hP9 := hP.sub (ws' := []) [] rfl
    have hD9 := hD.sub (ws' := []) [] (by decide) rfl
    have hS : va_S A s.heap s.heap [] := hS
    exact W.iret (v := (-1)) hx hb hr (fun t ht hW => ⟨⟨_, (), rfl, (Or.inr ⟨by omega, rfl⟩), by rw [ht]; exact hP9, hD9⟩, hS.F ht⟩) hS.2.2 dX11_row_19
  · have c_3 := hw_1.t c_3
    refine lv_iload_n hx hb dX11_row_7 rfl (lv_at hl 2 rfl) ?_
    refine lv_iconst (v := 0) hx hb dX11_row_8 (by decide) ?_
    refine lv_sipush (v := 999) hx hb dX11_row_9 (by decide) ?_
    have hPc := hP.sub (ws' := []) [] rfl
    have hDc := hD.sub (ws' := []) [] (by decide) rfl
    refine tl_si (tl_rS (As := [.int p1, .int 0, .int 999]) (rest := []) ⟨hx, hb, hml, hown, hta⟩ hK hN hPc hDc lk_X11_105 (c_X11_isIn l D cy s.heap.size p1 0 999 ) rfl rfl ⟨Nat.le_of_ble_eq_true rfl, Nat.le_of_ble_eq_true rfl⟩ rfl hl.1 rfl (Nat.le_of_ble_eq_true rfl) dX11_row_12 ⟨Nat.le_of_ble_eq_true rfl, Nat.le_of_ble_eq_true rfl⟩) (fun r_5 hw_4 => ?_)
    have hw_4 : tl_E r_5 ((0 : Int) ≤ p1.toInt ∧ p1.toInt ≤ (999 : Int)) 1 0 := hw_4
    refine lv_if_ne (tgt := 20) hx hb dX11_row_15 (by decide) (fun c_6 => ?_) (fun c_6 => ?_)
    · have c_6 := hw_4.t c_6
      refine lv_aload_n hx hb dX11_row_20 rfl (lv_at hl 0 rfl) ?_
      refine va_get (D := D) (ci := 11) (v := .ref b) (C := RX11) (T := TX11) (N := 16) hx hb hta inlX11 hown hK hP 0 rfl rfl 0 (by decide) (hta _ wk_15) (fun _ h9 => h9) rfl dX11_row_21 ?_
      refine va_getN (D := D) (ci := 0) (v := .ref ro) (C := RX0) (T := TX0) (N := 9) hx hb hta inlX0 hown hK hP 1 rfl rfl 2 (by decide) (va_Nw.use rfl (hN.1 20 _ nk_20)) (fun _ h9 => h9) rfl dX11_row_24 ?_
      refine lv_iload_n hx hb dX11_row_27 rfl (lv_at hl 1 rfl) ?_
      refine lv_iload_n hx hb dX11_row_28 rfl (lv_at hl 2 rfl) ?_
      refine lv_aload_n hx hb dX11_row_29 rfl (lv_at hl 0 rfl) ?_
      refine va_get (D := D) (ci := 11) (v := .ref b) (C := RX11) (T := TX11) (N := 16) hx hb hta inlX11 hown hK hP 0 rfl rfl 0 (by decide) (hta _ wk_15) (fun _ h9 => h9) rfl dX11_row_30 ?_
      refine va_getN (D := D) (ci := 0) (v := .int 0) (C := RX0) (T := TX0) (N := 9) hx hb hta inlX0 hown hK hP 1 rfl rfl 0 (by decide) (va_Nw.use rfl (hN.1 16 _ nk_16)) (fun _ h9 => h9) rfl dX11_row_33 ?_
      have hPc := hP.sub (ws' := [(ro, .inr (4, [.int 0, .int 0, .ref rg, .ref rh, .ref rk, .ref rr])), (rg, .inl (cy 0, 24, .inl (fun _ => 0))), (rh, .inl (cy 0, 24, .inl (fun _ => 0))), (rk, .inl (cy 0, 24, .inl (fun _ => 0))), (rr, .inl (cy 6, 24, .inr (.inr (.inr (.inr (fun i => if i < 24 then some (r i) else none)))))), ((r 0), .inl (cy 0, 300, .inl (fun _ => 0)))]) [2, 3, 4, 5, 6, 7] rfl
      have hDc := hD.sub (ws' := [(ro, .inr (4, [.int 0, .int 0, .ref rg, .ref rh, .ref rk, .ref rr])), (rg, .inl (cy 0, 24, .inl (fun _ => 0))), (rh, .inl (cy 0, 24, .inl (fun _ => 0))), (rk, .inl (cy 0, 24, .inl (fun _ => 0))), (rr, .inl (cy 6, 24, .inr (.inr (.inr (.inr (fun i => if i < 24 then some (r i) else none)))))), ((r 0), .inl (cy 0, 300, .inl (fun _ => 0)))]) [2, 3, 4, 5, 6, 7] (by decide) rfl
      refine tl_ci (wr := [(x, .inr (11, [.ref b, .ref im, .ref la, .ref cu, .ref wa, .ref pa, .ref dr, .ref su, .ref mk, .ref vi, .ref re, .ref rd, .ref so, .ref fw, .ref wo, .ref gi])), (b, .inr (0, [.int 0, .ref to, .ref ro, .ref sl, .ref li, .ref ca, .ref ho, .ref ta, .int 0]))]) _ _ hP hD hS hA [2, 3, 4, 5, 6, 7] [0, 1] rfl rfl (by decide) (by decide) (tl_rVN (As := [.int p0, .int p1, .int 0]) (rest := []) ⟨hx, hb, hml, hown, hta⟩ hK hN hPc hDc (ci := 4) rfl 0 rfl lk_X11_113 (c_X4_add l D cy s.heap.size ro p0 p1 0 rg rh rk rr r ) rfl rfl ⟨Nat.le_of_ble_eq_true rfl, Nat.le_of_ble_eq_true rfl⟩ rfl hl.1 rfl (Nat.le_of_ble_eq_true rfl) dX11_row_36 ⟨Nat.le_of_ble_eq_true rfl, Nat.le_of_ble_eq_true rfl⟩) (fun r_8 u_9 H locs hw_7 hP hD hS => ?_)
      have hP : va_P D vwCl [(x, .inr (11, [.ref b, .ref im, .ref la, .ref cu, .ref wa, .ref pa, .ref dr, .ref su, .ref mk, .ref vi, .ref re, .ref rd, .ref so, .ref fw, .ref wo, .ref gi])), (b, .inr (0, [.int 0, .ref to, .ref ro, .ref sl, .ref li, .ref ca, .ref ho, .ref ta, .int 0]))] H := hP
      have hD : va_D A [(x, .inr (11, [.ref b, .ref im, .ref la, .ref cu, .ref wa, .ref pa, .ref dr, .ref su, .ref mk, .ref vi, .ref re, .ref rd, .ref so, .ref fw, .ref wo, .ref gi])), (b, .inr (0, [.int 0, .ref to, .ref ro, .ref sl, .ref li, .ref ca, .ref ho, .ref ta, .int 0]))] := hD
      refine W.widen (k := 0) (n := 0) (Nat.le_refl _) (Nat.le_refl _) ?_
      subst hw_7
      have hP9 := hP.sub (ws' := []) [] rfl
      have hD9 := hD.sub (ws' := []) [] (by decide) rfl
      exact W.iret (v := 0) hx hb hr (fun t ht hW => ⟨⟨_, (), rfl, (Or.inl ⟨by omega, rfl⟩), by rw [ht]; exact hP9, hD9⟩, hS.F ht⟩) hS.2.2 dX11_row_39
    · have c_6 := hw_4.f c_6
      refine lv_iconst (v := (-1)) hx hb dX11_row_18 (by decide) ?_
      have hP9 := hP.sub (ws' := []) [] rfl
      have hD9 := hD.sub (ws' := []) [] (by decide) rfl
      have hS : va_S A s.heap s.heap [] := hS
      exact W.iret (v := (-1)) hx hb hr (fun t ht hW => ⟨⟨_, (), rfl, (Or.inr ⟨by omega, rfl⟩), by rw [ht]; exact hP9, hD9⟩, hS.F ht⟩) hS.2.2 dX11_row_19

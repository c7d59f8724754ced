theorem tl_K_of {s : State} {D : va_G} (hKc : ∀ (k : Nat) (q : vw_C), vwCl[k]? = some q → u_Kn s q.1 q.2.1 q.2.2 (D.1 k) (D.2 k)) {a0 a1 a2 a3 a4 a5 a6 : ClassId} (h0 : ArrOfT s a0 .int ∧ va_RA s a0 .int) (h1 : ArrOfT s a1 .long ∧ va_RA s a1 .long) (h2 : ArrOfT s a2 .boolean ∧ va_RA s a2 .boolean) (h3 : ArrOfT s a3 .byte ∧ va_RA s a3 .byte) (h4 : ArrOfT s a4 (.object "ThinLine$Book") ∧ va_RA s a4 (.object "ThinLine$Book")) (h5 : ArrOfT s a5 (.object "ThinLine$Text") ∧ va_RA s a5 (.object "ThinLine$Text")) (h6 : ArrOfT s a6 (.array .int) ∧ va_RA s a6 (.array .int)) : ∃ cy : Nat → ClassId, va_K D vwCl (tl_T cy) s :=
  ⟨fun k => ([a0, a1, a2, a3, a4, a5, a6] : List ClassId).getD k a0, hKc, fun k q hk => by
    match k, hk with
    | 0, hk => cases hk; exact h0
    | 1, hk => cases hk; exact h1
    | 2, hk => cases hk; exact h2
    | 3, hk => cases hk; exact h3
    | 4, hk => cases hk; exact h4
    | 5, hk => cases hk; exact h5
    | 6, hk => cases hk; exact h6
    | k + 7, hk => simp [tl_T] at hk⟩
theorem tl_prim {args : Array Value} {s : State} {t : FieldType} (h : (Cond.arrayClass t).before args s = true) (ho : ∀ C, t ≠ .object C) : ∃ c : ClassId, ArrOfT s c t ∧ va_RA s c t := by
  obtain ⟨c, k, comp, h1, h2, h3⟩ := Cond.arrayClass_spec h
  refine ⟨c, fun N z => ⟨(fun q hq => by cases hq), k, h2, comp, h3⟩, ?_⟩
  cases t <;> first | exact h1 | exact absurd rfl (ho _)
theorem tl_obj {args : Array Value} {s : State} {C : String} (h : (Cond.arrayOver (.object C)).before args s = true) : ∃ c : ClassId, ArrOfT s c (.object C) ∧ va_RA s c (.object C) := by
  obtain ⟨comp, c, k, h1, h2, h3, h4, h5⟩ := Cond.arrayOver_spec h
  exact ⟨c, fun N z => ⟨(fun q hq => by cases hq), k, h3, comp, h4⟩, k, comp, h3, h4, h1, h5⟩
theorem tl_arr {args : Array Value} {s : State} {t : FieldType} (h : (Cond.arrayOver (.array t)).before args s = true) : ∃ c : ClassId, ArrOfT s c (.array t) ∧ va_RA s c (.array t) := by
  obtain ⟨comp, c, k, h1, h2, h3, h4, h5⟩ := arrayOverA_spec h
  exact ⟨c, fun N z => ⟨(fun q hq => by cases hq), k, h3, comp, h4⟩, h5⟩
set_option maxHeartbeats 8000000 in
set_option maxRecDepth 100000 in
/-- THE LAW, from its entry -/
theorem whole_start {p : Program} {e : Env} {s : State} {m : MethodId} {below : List Frame} {meth : Method} {c : Code} (l : Launch) {b L : Nat} {xs : Nat → Int32} (hL : L ≤ 7) (C0 : lw_At p s m meth c b L xs) : W p l e room_1 s m #[Value.ref b] below meth c s.heap [] 0 0 (lw_Z below #[Value.ref b] s) (entryFrame m ([Value.ref b] : List Value).toArray 4) := by
  obtain ⟨hx, hb, hr, hml, hown, hts, hX, hbl, hlocks, hgv⟩ := id C0
  have hta : ∀ w ∈ tl_L, w.before #[Value.ref b] s = true := fun w h => hts w (List.mem_filter.mp h).1
  obtain ⟨A, hAe⟩ : ∃ A : Nat → Prop, A = fun q : Nat => s.heap.size ≤ q := ⟨_, rfl⟩
  have hA : ∀ q : Nat, s.heap.size ≤ q → A q := fun q h => by rw [hAe]; exact h
  have hbA : ¬ A b := by rw [hAe]; exact Nat.not_le.mpr hbl
  have hN : tl_ok s := ⟨fun i w hi => va_Nw.of (tl_N_on (List.all_eq_true.mp tl_N_all w (List.mem_of_getElem? hi))) (hts w (tl_N_in w (List.mem_of_getElem? hi))), va_AO.of (hts (.arrayOver (.object "ThinLine$Book")) (by decide +kernel)), va_AO.of (hts (.arrayOver (.object "ThinLine$Text")) (by decide +kernel)), va_AOA.of (hts (.arrayOver (.array .int)) (by decide +kernel))⟩
  obtain ⟨c0, iS0, hKn0⟩ := u_known (C := RX0) (T := TX0) (N := 9) (n := 9) hts (fun w h => (List.mem_filter.mp (inlX0 w h)).1) (hts (.instantiable RX0 9) (by decide +kernel))
  obtain ⟨c1, iS1, hKn1⟩ := u_known (C := RX1) (T := TX1) (N := 5) (n := 5) hts (fun w h => (List.mem_filter.mp (inlX1 w h)).1) (hts (.instantiable RX1 5) (by decide +kernel))
  obtain ⟨c2, iS2, hKn2⟩ := u_known (C := RX2) (T := TX2) (N := 6) (n := 6) hts (fun w h => (List.mem_filter.mp (inlX2 w h)).1) (hts (.instantiable RX2 6) (by decide +kernel))
  obtain ⟨c3, iS3, hKn3⟩ := u_known (C := RX3) (T := TX3) (N := 2) (n := 2) hts (fun w h => (List.mem_filter.mp (inlX3 w h)).1) (hts (.instantiable RX3 2) (by decide +kernel))
  obtain ⟨c4, iS4, hKn4⟩ := u_known (C := RX4) (T := TX4) (N := 6) (n := 6) hts (fun w h => (List.mem_filter.mp (inlX4 w h)).1) (hts (.instantiable RX4 6) (by decide +kernel))
  obtain ⟨c5, iS5, hKn5⟩ := u_known (C := RX5) (T := TX5) (N := 2) (n := 2) hts (fun w h => (List.mem_filter.mp (inlX5 w h)).1) (hts (.instantiable RX5 2) (by decide +kernel))
  obtain ⟨c6, iS6, hKn6⟩ := u_known (C := RX6) (T := TX6) (N := 3) (n := 3) hts (fun w h => (List.mem_filter.mp (inlX6 w h)).1) (hts (.instantiable RX6 3) (by decide +kernel))
  obtain ⟨c7, iS7, hKn7⟩ := u_known (C := RX7) (T := TX7) (N := 9) (n := 9) hts (fun w h => (List.mem_filter.mp (inlX7 w h)).1) (hts (.instantiable RX7 9) (by decide +kernel))
  obtain ⟨c8, iS8, hKn8⟩ := u_known (C := RX8) (T := TX8) (N := 2) (n := 2) hts (fun w h => (List.mem_filter.mp (inlX8 w h)).1) (hts (.instantiable RX8 2) (by decide +kernel))
  obtain ⟨c9, iS9, hKn9⟩ := u_known (C := RX9) (T := TX9) (N := 4) (n := 4) hts (fun w h => (List.mem_filter.mp (inlX9 w h)).1) (hts (.instantiable RX9 4) (by decide +kernel))
  obtain ⟨c10, iS10, hKn10⟩ := u_known (C := RX10) (T := TX10) (N := 18) (n := 18) hts (fun w h => (List.mem_filter.mp (inlX10 w h)).1) (hts (.instantiable RX10 18) (by decide +kernel))
  obtain ⟨c11, iS11, hKn11⟩ := u_known (C := RX11) (T := TX11) (N := 16) (n := 16) hts (fun w h => (List.mem_filter.mp (inlX11 w h)).1) (hts (.instantiable RX11 16) (by decide +kernel))
  obtain ⟨c12, iS12, hKn12⟩ := u_known (C := RX12) (T := TX12) (N := 49) (n := 49) hts (fun w h => (List.mem_filter.mp (inlX12 w h)).1) (hts (.instantiable RX12 49) (by decide +kernel))
  obtain ⟨D, hKc⟩ : ∃ D : va_G, ∀ (k : Nat) (q : vw_C), vwCl[k]? = some q → u_Kn s q.1 q.2.1 q.2.2 (D.1 k) (D.2 k) := by
    refine ⟨(fun k => ([c0, c1, c2, c3, c4, c5, c6, c7, c8, c9, c10, c11, c12] : List ClassId).getD k c0, fun k => ([iS0, iS1, iS2, iS3, iS4, iS5, iS6, iS7, iS8, iS9, iS10, iS11, iS12] : List (Nat → Nat)).getD k iS0), ?_⟩
    intro k q hq
    match k, hq with
    | 0, hq => cases hq; exact hKn0
    | 1, hq => cases hq; exact hKn1
    | 2, hq => cases hq; exact hKn2
    | 3, hq => cases hq; exact hKn3
    | 4, hq => cases hq; exact hKn4
    | 5, hq => cases hq; exact hKn5
    | 6, hq => cases hq; exact hKn6
    | 7, hq => cases hq; exact hKn7
    | 8, hq => cases hq; exact hKn8
    | 9, hq => cases hq; exact hKn9
    | 10, hq => cases hq; exact hKn10
    | 11, hq => cases hq; exact hKn11
    | 12, hq => cases hq; exact hKn12
    | k + 13, hq => simp [vwCl] at hq
  obtain ⟨a0, ha0⟩ := tl_prim (hts (.arrayClass .int) (by decide +kernel)) (fun _ h => by cases h)
  obtain ⟨a1, ha1⟩ := tl_prim (hts (.arrayClass .long) (by decide +kernel)) (fun _ h => by cases h)
  obtain ⟨a2, ha2⟩ := tl_prim (hts (.arrayClass .boolean) (by decide +kernel)) (fun _ h => by cases h)
  obtain ⟨a3, ha3⟩ := tl_prim (hts (.arrayClass .byte) (by decide +kernel)) (fun _ h => by cases h)
  obtain ⟨a4, ha4⟩ := tl_obj (hts (.arrayOver (.object "ThinLine$Book")) (by decide +kernel))
  obtain ⟨a5, ha5⟩ := tl_obj (hts (.arrayOver (.object "ThinLine$Text")) (by decide +kernel))
  obtain ⟨a6, ha6⟩ := tl_arr (hts (.arrayOver (.array .int)) (by decide +kernel))
  obtain ⟨cy, hK⟩ := tl_K_of hKc ha0 ha1 ha2 ha3 ha4 ha5 ha6
  have hS : va_S A s.heap s.heap [] := va_S.rf
  have hP : va_P D vwCl [] s.heap := fun k q h => by simp at h
  have hD : va_D A [] := ⟨fun i j p q h => by simp at h, fun k q h => by simp at h⟩
  have hl := lv_entry ([.ref b]) (n := 4) (Nat.le_of_ble_eq_true rfl)
  rw [lg_entry_eq]
  generalize (lg_sl ([.ref b]) ++ List.replicate (4 - (lg_sl ([.ref b])).length) Slot.unset).toArray = ls at hl ⊢
  have hl : lv_has ls 4 [(0, .ref b)] := hl
  refine va_new (ci := 11) (fs := [.null, .null, .null, .null, .null, .null, .null, .null, .null, .null, .null, .null, .null, .null, .null, .null]) (C := RX11) (T := TX11) (N := 16) hx hb hta inlX11 tyX11 tyX11_ok hown (hta _ wk_0) (hta _ wk_1) (hta _ wk_2) hK hP hD hS hA rfl nf_X11 (Nat.le_of_ble_eq_true rfl) (Nat.le_of_ble_eq_true rfl) dL_law_0 (fun q_1 H hP hD hS => ?_)
  have hP : va_P D vwCl [(q_1, .inr (11, [.null, .null, .null, .null, .null, .null, .null, .null, .null, .null, .null, .null, .null, .null, .null, .null]))] H := hP
  have hD : va_D A [(q_1, .inr (11, [.null, .null, .null, .null, .null, .null, .null, .null, .null, .null, .null, .null, .null, .null, .null, .null]))] := hD
  refine W.widen (k := 1) (n := 16) (Nat.le_of_ble_eq_true rfl) (Nat.le_of_ble_eq_true rfl) ?_
  refine lv_dup hx hb dL_law_3 rfl ?_
  refine tl_cv (wr := []) _ _ hP hD hS hA [0] [] rfl rfl (by decide) (by decide) (tl_rI (As := []) (rest := [.ref q_1]) ⟨hx, hb, hml, hown, hta⟩ hK hN hP hD lk_L_9 (c_X11_init l D cy H.size q_1 ) rfl rfl ⟨Nat.le_of_ble_eq_true rfl, Nat.le_of_ble_eq_true rfl⟩ rfl hl.1 rfl (Nat.le_of_ble_eq_true rfl) dL_law_4 ⟨Nat.le_of_ble_eq_true rfl, Nat.le_of_ble_eq_true rfl⟩) (fun u_4 H locs hw_2 hP hD hS => ?_)
  have hP : va_P D vwCl [(q_1, .inr (11, [.ref (u_4.1 0), .ref (u_4.1 1), .ref (u_4.1 2), .ref (u_4.1 3), .ref (u_4.1 4), .ref (u_4.1 5), .ref (u_4.1 6), .ref (u_4.1 7), .ref (u_4.1 8), .ref (u_4.1 9), .ref (u_4.1 10), .ref (u_4.1 11), .ref (u_4.1 12), .ref (u_4.1 13), .ref (u_4.1 14), .ref (u_4.1 15)])), ((u_4.1 0), .inr (0, [.int 0, .ref (u_4.1 16), .ref (u_4.1 17), .ref (u_4.1 18), .ref (u_4.1 19), .ref (u_4.1 20), .ref (u_4.1 21), .ref (u_4.1 22), .int 0])), ((u_4.1 16), .inl (cy 0, 4, .inl (fun _ => 0))), ((u_4.1 17), .inr (4, [.int 0, .int 0, .ref (u_4.1 23), .ref (u_4.1 24), .ref (u_4.1 25), .ref (u_4.1 26)])), ((u_4.1 23), .inl (cy 0, 24, .inl (fun _ => 0))), ((u_4.1 24), .inl (cy 0, 24, .inl (fun _ => 0))), ((u_4.1 25), .inl (cy 0, 24, .inl (fun _ => 0))), ((u_4.1 26), .inl (cy 6, 24, .inr (.inr (.inr (.inr (fun i => if i < 24 then some (u_4.2 i) else none)))))), ((u_4.2 0), .inl (cy 0, 300, .inl (fun _ => 0))), ((u_4.1 18), .inr (6, [.int 40, .ref (u_4.1 27), .int 0])), ((u_4.1 27), .inl (cy 0, 160, .inl (fun _ => 0))), ((u_4.1 19), .inr (6, [.int 60, .ref (u_4.1 28), .int 0])), ((u_4.1 28), .inl (cy 0, 240, .inl (fun _ => 0))), ((u_4.1 20), .inr (6, [.int 10, .ref (u_4.1 29), .int 0])), ((u_4.1 29), .inl (cy 0, 40, .inl (fun _ => 0))), ((u_4.1 21), .inr (6, [.int 8, .ref (u_4.1 30), .int 0])), ((u_4.1 30), .inl (cy 0, 32, .inl (fun _ => 0))), ((u_4.1 22), .inl (cy 0, 400, .inl (fun _ => 0))), ((u_4.1 1), .inl (cy 4, 4, .inr (.inr (.inr (.inr (fun _ => none)))))), ((u_4.1 2), .inr (8, [.ref (u_4.1 31), .int 0])), ((u_4.1 31), .inl (cy 5, 6, .inr (.inr (.inr (.inr (fun _ => none)))))), ((u_4.1 3), .inr (8, [.ref (u_4.1 32), .int 0])), ((u_4.1 32), .inl (cy 5, 8, .inr (.inr (.inr (.inr (fun _ => none)))))), ((u_4.1 4), .inr (8, [.ref (u_4.1 33), .int 0])), ((u_4.1 33), .inl (cy 5, 8, .inr (.inr (.inr (.inr (fun _ => none)))))), ((u_4.1 5), .inr (2, [.ref (u_4.1 34), .ref (u_4.1 35), .int 0, .int 0, .int 0, .int 0])), ((u_4.1 34), .inr (9, [.ref (u_4.1 36), .ref (u_4.1 37), .ref (u_4.1 38), .int 0])), ((u_4.1 36), .inl (cy 0, 401, .inl (fun _ => 0))), ((u_4.1 37), .inl (cy 0, 401, .inl (fun _ => 0))), ((u_4.1 38), .inl (cy 0, 401, .inl (fun _ => 0))), ((u_4.1 6), .inr (7, [.int 0, .ref (u_4.1 39), .ref (u_4.1 40), .ref (u_4.1 41), .ref (u_4.1 42), .ref (u_4.1 43), .ref (u_4.1 44), .ref (u_4.1 45), .int 0])), ((u_4.1 13), .inl (cy 0, 8, .inl (fun _ => 0))), ((u_4.1 15), .inl (cy 0, 8, .inl (fun _ => 0)))] H := hP
  have hD : va_D A [(q_1, .inr (11, [.ref (u_4.1 0), .ref (u_4.1 1), .ref (u_4.1 2), .ref (u_4.1 3), .ref (u_4.1 4), .ref (u_4.1 5), .ref (u_4.1 6), .ref (u_4.1 7), .ref (u_4.1 8), .ref (u_4.1 9), .ref (u_4.1 10), .ref (u_4.1 11), .ref (u_4.1 12), .ref (u_4.1 13), .ref (u_4.1 14), .ref (u_4.1 15)])), ((u_4.1 0), .inr (0, [.int 0, .ref (u_4.1 16), .ref (u_4.1 17), .ref (u_4.1 18), .ref (u_4.1 19), .ref (u_4.1 20), .ref (u_4.1 21), .ref (u_4.1 22), .int 0])), ((u_4.1 16), .inl (cy 0, 4, .inl (fun _ => 0))), ((u_4.1 17), .inr (4, [.int 0, .int 0, .ref (u_4.1 23), .ref (u_4.1 24), .ref (u_4.1 25), .ref (u_4.1 26)])), ((u_4.1 23), .inl (cy 0, 24, .inl (fun _ => 0))), ((u_4.1 24), .inl (cy 0, 24, .inl (fun _ => 0))), ((u_4.1 25), .inl (cy 0, 24, .inl (fun _ => 0))), ((u_4.1 26), .inl (cy 6, 24, .inr (.inr (.inr (.inr (fun i => if i < 24 then some (u_4.2 i) else none)))))), ((u_4.2 0), .inl (cy 0, 300, .inl (fun _ => 0))), ((u_4.1 18), .inr (6, [.int 40, .ref (u_4.1 27), .int 0])), ((u_4.1 27), .inl (cy 0, 160, .inl (fun _ => 0))), ((u_4.1 19), .inr (6, [.int 60, .ref (u_4.1 28), .int 0])), ((u_4.1 28), .inl (cy 0, 240, .inl (fun _ => 0))), ((u_4.1 20), .inr (6, [.int 10, .ref (u_4.1 29), .int 0])), ((u_4.1 29), .inl (cy 0, 40, .inl (fun _ => 0))), ((u_4.1 21), .inr (6, [.int 8, .ref (u_4.1 30), .int 0])), ((u_4.1 30), .inl (cy 0, 32, .inl (fun _ => 0))), ((u_4.1 22), .inl (cy 0, 400, .inl (fun _ => 0))), ((u_4.1 1), .inl (cy 4, 4, .inr (.inr (.inr (.inr (fun _ => none)))))), ((u_4.1 2), .inr (8, [.ref (u_4.1 31), .int 0])), ((u_4.1 31), .inl (cy 5, 6, .inr (.inr (.inr (.inr (fun _ => none)))))), ((u_4.1 3), .inr (8, [.ref (u_4.1 32), .int 0])), ((u_4.1 32), .inl (cy 5, 8, .inr (.inr (.inr (.inr (fun _ => none)))))), ((u_4.1 4), .inr (8, [.ref (u_4.1 33), .int 0])), ((u_4.1 33), .inl (cy 5, 8, .inr (.inr (.inr (.inr (fun _ => none)))))), ((u_4.1 5), .inr (2, [.ref (u_4.1 34), .ref (u_4.1 35), .int 0, .int 0, .int 0, .int 0])), ((u_4.1 34), .inr (9, [.ref (u_4.1 36), .ref (u_4.1 37), .ref (u_4.1 38), .int 0])), ((u_4.1 36), .inl (cy 0, 401, .inl (fun _ => 0))), ((u_4.1 37), .inl (cy 0, 401, .inl (fun _ => 0))), ((u_4.1 38), .inl (cy 0, 401, .inl (fun _ => 0))), ((u_4.1 6), .inr (7, [.int 0, .ref (u_4.1 39), .ref (u_4.1 40), .ref (u_4.1 41), .ref (u_4.1 42), .ref (u_4.1 43), .ref (u_4.1 44), .ref (u_4.1 45), .int 0])), ((u_4.1 13), .inl (cy 0, 8, .inl (fun _ => 0))), ((u_4.1 15), .inl (cy 0, 8, .inl (fun _ => 0)))] := hD
  refine W.widen (k := 92) (n := 13272) (Nat.le_of_ble_eq_true rfl) (Nat.le_of_ble_eq_true rfl) ?_
  refine lv_astore_n (lv' := [(1, .ref q_1), (0, .ref b)]) hx hb dL_law_7 rfl hl (by decide) rfl (fun ls hl => ?_)
  refine va_new (ci := 12) (fs := [.null, .null, .int 0, .null, .null, .null, .null, .null, .null, .null, .null, .null, .null, .null, .null, .null, .null, .int 0, .int 0, .int 0, .int 0, .int 0, .int 0, .int 0, .null, .int 0, .null, .int 0, .null, .long 0, .null, .null, .int 0, .int 0, .int 0, .null, .null, .int 0, .null, .int 0, .int 0, .null, .null, .null, .null, .null, .null, .null, .null]) (C := RX12) (T := TX12) (N := 49) hx hb hta inlX12 tyX12 tyX12_ok hown (hta _ wk_3) (hta _ wk_4) (hta _ wk_5) hK hP hD hS hA rfl nf_X12 (Nat.le_of_ble_eq_true rfl) (Nat.le_of_ble_eq_true rfl) dL_law_8 (fun q_5 H hP hD hS => ?_)
  have hP : va_P D vwCl [(q_1, .inr (11, [.ref (u_4.1 0), .ref (u_4.1 1), .ref (u_4.1 2), .ref (u_4.1 3), .ref (u_4.1 4), .ref (u_4.1 5), .ref (u_4.1 6), .ref (u_4.1 7), .ref (u_4.1 8), .ref (u_4.1 9), .ref (u_4.1 10), .ref (u_4.1 11), .ref (u_4.1 12), .ref (u_4.1 13), .ref (u_4.1 14), .ref (u_4.1 15)])), ((u_4.1 0), .inr (0, [.int 0, .ref (u_4.1 16), .ref (u_4.1 17), .ref (u_4.1 18), .ref (u_4.1 19), .ref (u_4.1 20), .ref (u_4.1 21), .ref (u_4.1 22), .int 0])), ((u_4.1 16), .inl (cy 0, 4, .inl (fun _ => 0))), ((u_4.1 17), .inr (4, [.int 0, .int 0, .ref (u_4.1 23), .ref (u_4.1 24), .ref (u_4.1 25), .ref (u_4.1 26)])), ((u_4.1 23), .inl (cy 0, 24, .inl (fun _ => 0))), ((u_4.1 24), .inl (cy 0, 24, .inl (fun _ => 0))), ((u_4.1 25), .inl (cy 0, 24, .inl (fun _ => 0))), ((u_4.1 26), .inl (cy 6, 24, .inr (.inr (.inr (.inr (fun i => if i < 24 then some (u_4.2 i) else none)))))), ((u_4.2 0), .inl (cy 0, 300, .inl (fun _ => 0))), ((u_4.1 18), .inr (6, [.int 40, .ref (u_4.1 27), .int 0])), ((u_4.1 27), .inl (cy 0, 160, .inl (fun _ => 0))), ((u_4.1 19), .inr (6, [.int 60, .ref (u_4.1 28), .int 0])), ((u_4.1 28), .inl (cy 0, 240, .inl (fun _ => 0))), ((u_4.1 20), .inr (6, [.int 10, .ref (u_4.1 29), .int 0])), ((u_4.1 29), .inl (cy 0, 40, .inl (fun _ => 0))), ((u_4.1 21), .inr (6, [.int 8, .ref (u_4.1 30), .int 0])), ((u_4.1 30), .inl (cy 0, 32, .inl (fun _ => 0))), ((u_4.1 22), .inl (cy 0, 400, .inl (fun _ => 0))), ((u_4.1 1), .inl (cy 4, 4, .inr (.inr (.inr (.inr (fun _ => none)))))), ((u_4.1 2), .inr (8, [.ref (u_4.1 31), .int 0])), ((u_4.1 31), .inl (cy 5, 6, .inr (.inr (.inr (.inr (fun _ => none)))))), ((u_4.1 3), .inr (8, [.ref (u_4.1 32), .int 0])), ((u_4.1 32), .inl (cy 5, 8, .inr (.inr (.inr (.inr (fun _ => none)))))), ((u_4.1 4), .inr (8, [.ref (u_4.1 33), .int 0])), ((u_4.1 33), .inl (cy 5, 8, .inr (.inr (.inr (.inr (fun _ => none)))))), ((u_4.1 5), .inr (2, [.ref (u_4.1 34), .ref (u_4.1 35), .int 0, .int 0, .int 0, .int 0])), ((u_4.1 34), .inr (9, [.ref (u_4.1 36), .ref (u_4.1 37), .ref (u_4.1 38), .int 0])), ((u_4.1 36), .inl (cy 0, 401, .inl (fun _ => 0))), ((u_4.1 37), .inl (cy 0, 401, .inl (fun _ => 0))), ((u_4.1 38), .inl (cy 0, 401, .inl (fun _ => 0))), ((u_4.1 6), .inr (7, [.int 0, .ref (u_4.1 39), .ref (u_4.1 40), .ref (u_4.1 41), .ref (u_4.1 42), .ref (u_4.1 43), .ref (u_4.1 44), .ref (u_4.1 45), .int 0])), ((u_4.1 13), .inl (cy 0, 8, .inl (fun _ => 0))), ((u_4.1 15), .inl (cy 0, 8, .inl (fun _ => 0))), (q_5, .inr (12, [.null, .null, .int 0, .null, .null, .null, .null, .null, .null, .null, .null, .null, .null, .null, .null, .null, .null, .int 0, .int 0, .int 0, .int 0, .int 0, .int 0, .int 0, .null, .int 0, .null, .int 0, .null, .long 0, .null, .null, .int 0, .int 0, .int 0, .null, .null, .int 0, .null, .int 0, .int 0, .null, .null, .null, .null, .null, .null, .null, .null]))] H := hP
  have hD : va_D A [(q_1, .inr (11, [.ref (u_4.1 0), .ref (u_4.1 1), .ref (u_4.1 2), .ref (u_4.1 3), .ref (u_4.1 4), .ref (u_4.1 5), .ref (u_4.1 6), .ref (u_4.1 7), .ref (u_4.1 8), .ref (u_4.1 9), .ref (u_4.1 10), .ref (u_4.1 11), .ref (u_4.1 12), .ref (u_4.1 13), .ref (u_4.1 14), .ref (u_4.1 15)])), ((u_4.1 0), .inr (0, [.int 0, .ref (u_4.1 16), .ref (u_4.1 17), .ref (u_4.1 18), .ref (u_4.1 19), .ref (u_4.1 20), .ref (u_4.1 21), .ref (u_4.1 22), .int 0])), ((u_4.1 16), .inl (cy 0, 4, .inl (fun _ => 0))), ((u_4.1 17), .inr (4, [.int 0, .int 0, .ref (u_4.1 23), .ref (u_4.1 24), .ref (u_4.1 25), .ref (u_4.1 26)])), ((u_4.1 23), .inl (cy 0, 24, .inl (fun _ => 0))), ((u_4.1 24), .inl (cy 0, 24, .inl (fun _ => 0))), ((u_4.1 25), .inl (cy 0, 24, .inl (fun _ => 0))), ((u_4.1 26), .inl (cy 6, 24, .inr (.inr (.inr (.inr (fun i => if i < 24 then some (u_4.2 i) else none)))))), ((u_4.2 0), .inl (cy 0, 300, .inl (fun _ => 0))), ((u_4.1 18), .inr (6, [.int 40, .ref (u_4.1 27), .int 0])), ((u_4.1 27), .inl (cy 0, 160, .inl (fun _ => 0))), ((u_4.1 19), .inr (6, [.int 60, .ref (u_4.1 28), .int 0])), ((u_4.1 28), .inl (cy 0, 240, .inl (fun _ => 0))), ((u_4.1 20), .inr (6, [.int 10, .ref (u_4.1 29), .int 0])), ((u_4.1 29), .inl (cy 0, 40, .inl (fun _ => 0))), ((u_4.1 21), .inr (6, [.int 8, .ref (u_4.1 30), .int 0])), ((u_4.1 30), .inl (cy 0, 32, .inl (fun _ => 0))), ((u_4.1 22), .inl (cy 0, 400, .inl (fun _ => 0))), ((u_4.1 1), .inl (cy 4, 4, .inr (.inr (.inr (.inr (fun _ => none)))))), ((u_4.1 2), .inr (8, [.ref (u_4.1 31), .int 0])), ((u_4.1 31), .inl (cy 5, 6, .inr (.inr (.inr (.inr (fun _ => none)))))), ((u_4.1 3), .inr (8, [.ref (u_4.1 32), .int 0])), ((u_4.1 32), .inl (cy 5, 8, .inr (.inr (.inr (.inr (fun _ => none)))))), ((u_4.1 4), .inr (8, [.ref (u_4.1 33), .int 0])), ((u_4.1 33), .inl (cy 5, 8, .inr (.inr (.inr (.inr (fun _ => none)))))), ((u_4.1 5), .inr (2, [.ref (u_4.1 34), .ref (u_4.1 35), .int 0, .int 0, .int 0, .int 0])), ((u_4.1 34), .inr (9, [.ref (u_4.1 36), .ref (u_4.1 37), .ref (u_4.1 38), .int 0])), ((u_4.1 36), .inl (cy 0, 401, .inl (fun _ => 0))), ((u_4.1 37), .inl (cy 0, 401, .inl (fun _ => 0))), ((u_4.1 38), .inl (cy 0, 401, .inl (fun _ => 0))), ((u_4.1 6), .inr (7, [.int 0, .ref (u_4.1 39), .ref (u_4.1 40), .ref (u_4.1 41), .ref (u_4.1 42), .ref (u_4.1 43), .ref (u_4.1 44), .ref (u_4.1 45), .int 0])), ((u_4.1 13), .inl (cy 0, 8, .inl (fun _ => 0))), ((u_4.1 15), .inl (cy 0, 8, .inl (fun _ => 0))), (q_5, .inr (12, [.null, .null, .int 0, .null, .null, .null, .null, .null, .null, .null, .null, .null, .null, .null, .null, .null, .null, .int 0, .int 0, .int 0, .int 0, .int 0, .int 0, .int 0, .null, .int 0, .null, .int 0, .null, .long 0, .null, .null, .int 0, .int 0, .int 0, .null, .null, .int 0, .null, .int 0, .int 0, .null, .null, .null, .null, .null, .null, .null, .null]))] := hD
  refine W.widen (k := 93) (n := 13321) (Nat.le_of_ble_eq_true rfl) (Nat.le_of_ble_eq_true rfl) ?_
  refine lv_dup hx hb dL_law_11 rfl ?_
  have hPc := hP.sub (ws' := [(q_5, .inr (12, [.null, .null, .int 0, .null, .null, .null, .null, .null, .null, .null, .null, .null, .null, .null, .null, .null, .null, .int 0, .int 0, .int 0, .int 0, .int 0, .int 0, .int 0, .null, .int 0, .null, .int 0, .null, .long 0, .null, .null, .int 0, .int 0, .int 0, .null, .null, .int 0, .null, .int 0, .int 0, .null, .null, .null, .null, .null, .null, .null, .null]))]) [33] rfl
  have hDc := hD.sub (ws' := [(q_5, .inr (12, [.null, .null, .int 0, .null, .null, .null, .null, .null, .null, .null, .null, .null, .null, .null, .null, .null, .null, .int 0, .int 0, .int 0, .int 0, .int 0, .int 0, .int 0, .null, .int 0, .null, .int 0, .null, .long 0, .null, .null, .int 0, .int 0, .int 0, .null, .null, .int 0, .null, .int 0, .int 0, .null, .null, .null, .null, .null, .null, .null, .null]))]) [33] (by decide) rfl
  refine tl_cv (wr := [(q_1, .inr (11, [.ref (u_4.1 0), .ref (u_4.1 1), .ref (u_4.1 2), .ref (u_4.1 3), .ref (u_4.1 4), .ref (u_4.1 5), .ref (u_4.1 6), .ref (u_4.1 7), .ref (u_4.1 8), .ref (u_4.1 9), .ref (u_4.1 10), .ref (u_4.1 11), .ref (u_4.1 12), .ref (u_4.1 13), .ref (u_4.1 14), .ref (u_4.1 15)])), ((u_4.1 0), .inr (0, [.int 0, .ref (u_4.1 16), .ref (u_4.1 17), .ref (u_4.1 18), .ref (u_4.1 19), .ref (u_4.1 20), .ref (u_4.1 21), .ref (u_4.1 22), .int 0])), ((u_4.1 16), .inl (cy 0, 4, .inl (fun _ => 0))), ((u_4.1 17), .inr (4, [.int 0, .int 0, .ref (u_4.1 23), .ref (u_4.1 24), .ref (u_4.1 25), .ref (u_4.1 26)])), ((u_4.1 23), .inl (cy 0, 24, .inl (fun _ => 0))), ((u_4.1 24), .inl (cy 0, 24, .inl (fun _ => 0))), ((u_4.1 25), .inl (cy 0, 24, .inl (fun _ => 0))), ((u_4.1 26), .inl (cy 6, 24, .inr (.inr (.inr (.inr (fun i => if i < 24 then some (u_4.2 i) else none)))))), ((u_4.2 0), .inl (cy 0, 300, .inl (fun _ => 0))), ((u_4.1 18), .inr (6, [.int 40, .ref (u_4.1 27), .int 0])), ((u_4.1 27), .inl (cy 0, 160, .inl (fun _ => 0))), ((u_4.1 19), .inr (6, [.int 60, .ref (u_4.1 28), .int 0])), ((u_4.1 28), .inl (cy 0, 240, .inl (fun _ => 0))), ((u_4.1 20), .inr (6, [.int 10, .ref (u_4.1 29), .int 0])), ((u_4.1 29), .inl (cy 0, 40, .inl (fun _ => 0))), ((u_4.1 21), .inr (6, [.int 8, .ref (u_4.1 30), .int 0])), ((u_4.1 30), .inl (cy 0, 32, .inl (fun _ => 0))), ((u_4.1 22), .inl (cy 0, 400, .inl (fun _ => 0))), ((u_4.1 1), .inl (cy 4, 4, .inr (.inr (.inr (.inr (fun _ => none)))))), ((u_4.1 2), .inr (8, [.ref (u_4.1 31), .int 0])), ((u_4.1 31), .inl (cy 5, 6, .inr (.inr (.inr (.inr (fun _ => none)))))), ((u_4.1 3), .inr (8, [.ref (u_4.1 32), .int 0])), ((u_4.1 32), .inl (cy 5, 8, .inr (.inr (.inr (.inr (fun _ => none)))))), ((u_4.1 4), .inr (8, [.ref (u_4.1 33), .int 0])), ((u_4.1 33), .inl (cy 5, 8, .inr (.inr (.inr (.inr (fun _ => none)))))), ((u_4.1 5), .inr (2, [.ref (u_4.1 34), .ref (u_4.1 35), .int 0, .int 0, .int 0, .int 0])), ((u_4.1 34), .inr (9, [.ref (u_4.1 36), .ref (u_4.1 37), .ref (u_4.1 38), .int 0])), ((u_4.1 36), .inl (cy 0, 401, .inl (fun _ => 0))), ((u_4.1 37), .inl (cy 0, 401, .inl (fun _ => 0))), ((u_4.1 38), .inl (cy 0, 401, .inl (fun _ => 0))), ((u_4.1 6), .inr (7, [.int 0, .ref (u_4.1 39), .ref (u_4.1 40), .ref (u_4.1 41), .ref (u_4.1 42), .ref (u_4.1 43), .ref (u_4.1 44), .ref (u_4.1 45), .int 0])), ((u_4.1 13), .inl (cy 0, 8, .inl (fun _ => 0))), ((u_4.1 15), .inl (cy 0, 8, .inl (fun _ => 0)))]) _ _ hP hD hS hA [33] [0, 1, 2, 3, 4, 5, 6, 7, 8, 9, 10, 11, 12, 13, 14, 15, 16, 17, 18, 19, 20, 21, 22, 23, 24, 25, 26, 27, 28, 29, 30, 31, 32] rfl rfl (by decide) (by decide) (tl_rI (As := []) (rest := [.ref q_5]) ⟨hx, hb, hml, hown, hta⟩ hK hN hPc hDc lk_L_12 (c_X12_init l D cy H.size q_5 ) rfl rfl ⟨Nat.le_of_ble_eq_true rfl, Nat.le_of_ble_eq_true rfl⟩ rfl hl.1 rfl (Nat.le_of_ble_eq_true rfl) dL_law_12 ⟨Nat.le_of_ble_eq_true rfl, Nat.le_of_ble_eq_true rfl⟩) (fun u_8 H locs hw_6 hP hD hS => ?_)
  have hP : va_P D vwCl [(q_1, .inr (11, [.ref (u_4.1 0), .ref (u_4.1 1), .ref (u_4.1 2), .ref (u_4.1 3), .ref (u_4.1 4), .ref (u_4.1 5), .ref (u_4.1 6), .ref (u_4.1 7), .ref (u_4.1 8), .ref (u_4.1 9), .ref (u_4.1 10), .ref (u_4.1 11), .ref (u_4.1 12), .ref (u_4.1 13), .ref (u_4.1 14), .ref (u_4.1 15)])), ((u_4.1 0), .inr (0, [.int 0, .ref (u_4.1 16), .ref (u_4.1 17), .ref (u_4.1 18), .ref (u_4.1 19), .ref (u_4.1 20), .ref (u_4.1 21), .ref (u_4.1 22), .int 0])), ((u_4.1 16), .inl (cy 0, 4, .inl (fun _ => 0))), ((u_4.1 17), .inr (4, [.int 0, .int 0, .ref (u_4.1 23), .ref (u_4.1 24), .ref (u_4.1 25), .ref (u_4.1 26)])), ((u_4.1 23), .inl (cy 0, 24, .inl (fun _ => 0))), ((u_4.1 24), .inl (cy 0, 24, .inl (fun _ => 0))), ((u_4.1 25), .inl (cy 0, 24, .inl (fun _ => 0))), ((u_4.1 26), .inl (cy 6, 24, .inr (.inr (.inr (.inr (fun i => if i < 24 then some (u_4.2 i) else none)))))), ((u_4.2 0), .inl (cy 0, 300, .inl (fun _ => 0))), ((u_4.1 18), .inr (6, [.int 40, .ref (u_4.1 27), .int 0])), ((u_4.1 27), .inl (cy 0, 160, .inl (fun _ => 0))), ((u_4.1 19), .inr (6, [.int 60, .ref (u_4.1 28), .int 0])), ((u_4.1 28), .inl (cy 0, 240, .inl (fun _ => 0))), ((u_4.1 20), .inr (6, [.int 10, .ref (u_4.1 29), .int 0])), ((u_4.1 29), .inl (cy 0, 40, .inl (fun _ => 0))), ((u_4.1 21), .inr (6, [.int 8, .ref (u_4.1 30), .int 0])), ((u_4.1 30), .inl (cy 0, 32, .inl (fun _ => 0))), ((u_4.1 22), .inl (cy 0, 400, .inl (fun _ => 0))), ((u_4.1 1), .inl (cy 4, 4, .inr (.inr (.inr (.inr (fun _ => none)))))), ((u_4.1 2), .inr (8, [.ref (u_4.1 31), .int 0])), ((u_4.1 31), .inl (cy 5, 6, .inr (.inr (.inr (.inr (fun _ => none)))))), ((u_4.1 3), .inr (8, [.ref (u_4.1 32), .int 0])), ((u_4.1 32), .inl (cy 5, 8, .inr (.inr (.inr (.inr (fun _ => none)))))), ((u_4.1 4), .inr (8, [.ref (u_4.1 33), .int 0])), ((u_4.1 33), .inl (cy 5, 8, .inr (.inr (.inr (.inr (fun _ => none)))))), ((u_4.1 5), .inr (2, [.ref (u_4.1 34), .ref (u_4.1 35), .int 0, .int 0, .int 0, .int 0])), ((u_4.1 34), .inr (9, [.ref (u_4.1 36), .ref (u_4.1 37), .ref (u_4.1 38), .int 0])), ((u_4.1 36), .inl (cy 0, 401, .inl (fun _ => 0))), ((u_4.1 37), .inl (cy 0, 401, .inl (fun _ => 0))), ((u_4.1 38), .inl (cy 0, 401, .inl (fun _ => 0))), ((u_4.1 6), .inr (7, [.int 0, .ref (u_4.1 39), .ref (u_4.1 40), .ref (u_4.1 41), .ref (u_4.1 42), .ref (u_4.1 43), .ref (u_4.1 44), .ref (u_4.1 45), .int 0])), ((u_4.1 13), .inl (cy 0, 8, .inl (fun _ => 0))), ((u_4.1 15), .inl (cy 0, 8, .inl (fun _ => 0))), (q_5, .inr (12, [.ref (u_8.1 0), .ref (u_8.1 1), .int 0, .ref (u_8.1 3), .ref (u_8.1 4), .ref (u_8.1 5), .ref (u_8.1 6), .ref (u_8.1 7), .ref (u_8.1 8), .ref (u_8.1 9), .ref (u_8.1 10), .ref (u_8.1 11), .ref (u_8.1 12), .ref (u_8.1 13), .ref (u_8.1 14), .ref (u_8.1 15), .ref (u_8.1 16), .int 0, .int 0, .int 0, .int 0, .int 0, .int 0, .int 0, .ref (u_8.1 24), .int 0, .ref (u_8.1 26), .int 0, .ref (u_8.1 28), .long 0, .ref (u_8.1 30), .ref (u_8.1 31), .int 0, .int 0, .int 0, .ref (u_8.1 35), .ref (u_8.1 36), .int 0, .ref (u_8.1 38), .int 0, .int 0, .ref (u_8.1 41), .ref (u_8.1 42), .ref (u_8.1 43), .ref (u_8.1 44), .ref (u_8.1 45), .ref (u_8.1 46), .ref (u_8.1 47), .ref (u_8.1 48)])), ((u_8.1 0), .inl (cy 0, 7666, .inl u_8.2)), ((u_8.1 1), .inl (cy 3, 400, .inl (fun _ => 0))), ((u_8.1 3), .inl (cy 0, 3, .inl (fun _ => 0))), ((u_8.1 5), .inl (cy 0, 22, .inl (fun _ => 0))), ((u_8.1 7), .inl (cy 0, 22, .inl (fun _ => 0))), ((u_8.1 9), .inl (cy 0, 6, .inl (fun _ => 0))), ((u_8.1 10), .inl (cy 0, 22, .inl (fun _ => 0))), ((u_8.1 12), .inl (cy 0, 22, .inl (fun _ => 0))), ((u_8.1 13), .inl (cy 0, 22, .inl (fun _ => 0))), ((u_8.1 14), .inl (cy 0, 22, .inl (fun _ => 0))), ((u_8.1 16), .inl (cy 0, 22, .inl (fun _ => 0))), ((u_8.1 47), .inl (cy 0, 30664, .inl (fun _ => 0))), ((u_8.1 48), .inl (cy 2, 4, .inl (fun _ => 0)))] H := hP
  have hD : va_D A [(q_1, .inr (11, [.ref (u_4.1 0), .ref (u_4.1 1), .ref (u_4.1 2), .ref (u_4.1 3), .ref (u_4.1 4), .ref (u_4.1 5), .ref (u_4.1 6), .ref (u_4.1 7), .ref (u_4.1 8), .ref (u_4.1 9), .ref (u_4.1 10), .ref (u_4.1 11), .ref (u_4.1 12), .ref (u_4.1 13), .ref (u_4.1 14), .ref (u_4.1 15)])), ((u_4.1 0), .inr (0, [.int 0, .ref (u_4.1 16), .ref (u_4.1 17), .ref (u_4.1 18), .ref (u_4.1 19), .ref (u_4.1 20), .ref (u_4.1 21), .ref (u_4.1 22), .int 0])), ((u_4.1 16), .inl (cy 0, 4, .inl (fun _ => 0))), ((u_4.1 17), .inr (4, [.int 0, .int 0, .ref (u_4.1 23), .ref (u_4.1 24), .ref (u_4.1 25), .ref (u_4.1 26)])), ((u_4.1 23), .inl (cy 0, 24, .inl (fun _ => 0))), ((u_4.1 24), .inl (cy 0, 24, .inl (fun _ => 0))), ((u_4.1 25), .inl (cy 0, 24, .inl (fun _ => 0))), ((u_4.1 26), .inl (cy 6, 24, .inr (.inr (.inr (.inr (fun i => if i < 24 then some (u_4.2 i) else none)))))), ((u_4.2 0), .inl (cy 0, 300, .inl (fun _ => 0))), ((u_4.1 18), .inr (6, [.int 40, .ref (u_4.1 27), .int 0])), ((u_4.1 27), .inl (cy 0, 160, .inl (fun _ => 0))), ((u_4.1 19), .inr (6, [.int 60, .ref (u_4.1 28), .int 0])), ((u_4.1 28), .inl (cy 0, 240, .inl (fun _ => 0))), ((u_4.1 20), .inr (6, [.int 10, .ref (u_4.1 29), .int 0])), ((u_4.1 29), .inl (cy 0, 40, .inl (fun _ => 0))), ((u_4.1 21), .inr (6, [.int 8, .ref (u_4.1 30), .int 0])), ((u_4.1 30), .inl (cy 0, 32, .inl (fun _ => 0))), ((u_4.1 22), .inl (cy 0, 400, .inl (fun _ => 0))), ((u_4.1 1), .inl (cy 4, 4, .inr (.inr (.inr (.inr (fun _ => none)))))), ((u_4.1 2), .inr (8, [.ref (u_4.1 31), .int 0])), ((u_4.1 31), .inl (cy 5, 6, .inr (.inr (.inr (.inr (fun _ => none)))))), ((u_4.1 3), .inr (8, [.ref (u_4.1 32), .int 0])), ((u_4.1 32), .inl (cy 5, 8, .inr (.inr (.inr (.inr (fun _ => none)))))), ((u_4.1 4), .inr (8, [.ref (u_4.1 33), .int 0])), ((u_4.1 33), .inl (cy 5, 8, .inr (.inr (.inr (.inr (fun _ => none)))))), ((u_4.1 5), .inr (2, [.ref (u_4.1 34), .ref (u_4.1 35), .int 0, .int 0, .int 0, .int 0])), ((u_4.1 34), .inr (9, [.ref (u_4.1 36), .ref (u_4.1 37), .ref (u_4.1 38), .int 0])), ((u_4.1 36), .inl (cy 0, 401, .inl (fun _ => 0))), ((u_4.1 37), .inl (cy 0, 401, .inl (fun _ => 0))), ((u_4.1 38), .inl (cy 0, 401, .inl (fun _ => 0))), ((u_4.1 6), .inr (7, [.int 0, .ref (u_4.1 39), .ref (u_4.1 40), .ref (u_4.1 41), .ref (u_4.1 42), .ref (u_4.1 43), .ref (u_4.1 44), .ref (u_4.1 45), .int 0])), ((u_4.1 13), .inl (cy 0, 8, .inl (fun _ => 0))), ((u_4.1 15), .inl (cy 0, 8, .inl (fun _ => 0))), (q_5, .inr (12, [.ref (u_8.1 0), .ref (u_8.1 1), .int 0, .ref (u_8.1 3), .ref (u_8.1 4), .ref (u_8.1 5), .ref (u_8.1 6), .ref (u_8.1 7), .ref (u_8.1 8), .ref (u_8.1 9), .ref (u_8.1 10), .ref (u_8.1 11), .ref (u_8.1 12), .ref (u_8.1 13), .ref (u_8.1 14), .ref (u_8.1 15), .ref (u_8.1 16), .int 0, .int 0, .int 0, .int 0, .int 0, .int 0, .int 0, .ref (u_8.1 24), .int 0, .ref (u_8.1 26), .int 0, .ref (u_8.1 28), .long 0, .ref (u_8.1 30), .ref (u_8.1 31), .int 0, .int 0, .int 0, .ref (u_8.1 35), .ref (u_8.1 36), .int 0, .ref (u_8.1 38), .int 0, .int 0, .ref (u_8.1 41), .ref (u_8.1 42), .ref (u_8.1 43), .ref (u_8.1 44), .ref (u_8.1 45), .ref (u_8.1 46), .ref (u_8.1 47), .ref (u_8.1 48)])), ((u_8.1 0), .inl (cy 0, 7666, .inl u_8.2)), ((u_8.1 1), .inl (cy 3, 400, .inl (fun _ => 0))), ((u_8.1 3), .inl (cy 0, 3, .inl (fun _ => 0))), ((u_8.1 5), .inl (cy 0, 22, .inl (fun _ => 0))), ((u_8.1 7), .inl (cy 0, 22, .inl (fun _ => 0))), ((u_8.1 9), .inl (cy 0, 6, .inl (fun _ => 0))), ((u_8.1 10), .inl (cy 0, 22, .inl (fun _ => 0))), ((u_8.1 12), .inl (cy 0, 22, .inl (fun _ => 0))), ((u_8.1 13), .inl (cy 0, 22, .inl (fun _ => 0))), ((u_8.1 14), .inl (cy 0, 22, .inl (fun _ => 0))), ((u_8.1 16), .inl (cy 0, 22, .inl (fun _ => 0))), ((u_8.1 47), .inl (cy 0, 30664, .inl (fun _ => 0))), ((u_8.1 48), .inl (cy 2, 4, .inl (fun _ => 0)))] := hD
  refine W.widen (k := 125) (n := 63803) (Nat.le_of_ble_eq_true rfl) (Nat.le_of_ble_eq_true rfl) ?_
  have hw_6 : ∀ k : Nat, (k < 441 ∨ 7641 ≤ k) → u_8.2 k = 0 := hw_6
  have hsd := hw_6
  refine lv_astore_n (lv' := [(2, .ref q_5), (1, .ref q_1), (0, .ref b)]) hx hb dL_law_15 rfl hl (by decide) rfl (fun ls hl => ?_)
  refine lv_iconst (v := 0) hx hb dL_law_16 (by decide) ?_
  refine lv_istore_n (lv' := [(3, .int 0), (2, .ref q_5), (1, .ref q_1), (0, .ref b)]) hx hb dL_law_17 rfl hl (by decide) rfl (fun ls hl => ?_)
  rcases Nat.lt_or_ge L 7 with hlt | hge
  · refine lv_iload_n hx hb dL_law_18 rfl (lv_at hl 0 rfl) ?_
    refine lv_aload_n hx hb dL_law_19 rfl (lv_at hl 3 rfl) ?_
    refine va_slen hx hb hX hbl hbA hS dL_law_20 ?_
    refine lv_bipush (v := 7) hx hb dL_law_21 (by decide) ?_
    refine lv_isub hx hb dL_law_23 ?_
    refine lv_icmp_gt (tgt := 2019) hx hb dL_law_24 (by decide) (fun _ => ?_) (fun c9 => absurd (tl_short L hlt) c9)
    refine lv_iconst (v := 1) hx hb dL_law_2019 (by decide) ?_
    subst hAe
    refine va_forget (fun q hq => hS.2.2 q hq) ?_
    refine W.widen (k := 600000) (n := 7302249) (Nat.le_of_ble_eq_true rfl) (Nat.le_of_ble_eq_true rfl) ?_
    exact lw_ret hx hb hr hlocks dL_law_2020
  · obtain rfl : L = 7 := by omega
    refine lv_iload_n hx hb dL_law_18 rfl (lv_at hl 0 rfl) ?_
    refine lv_aload_n hx hb dL_law_19 rfl (lv_at hl 3 rfl) ?_
    refine va_slen hx hb hX hbl hbA hS dL_law_20 ?_
    refine lv_bipush (v := 7) hx hb dL_law_21 (by decide) ?_
    refine lv_isub hx hb dL_law_23 ?_
    refine lv_topi (fun z ez => ?_)
    obtain rfl : z = (0 : Int32) := ez.trans (by decide)
    refine lv_icmp_gt (tgt := 2019) hx hb dL_law_24 (by decide) (fun c9 => absurd c9 (by decide)) (fun _ => ?_)
    refine lv_aload_n hx hb dL_law_27 rfl (lv_at hl 3 rfl) ?_
    refine lv_iload_n hx hb dL_law_28 rfl (lv_at hl 0 rfl) ?_
    refine va_sld hx hb hX hbl hbA hS (tl_in (by decide) (by decide)) dL_law_29 ?_
    refine lv_bipush (v := 63) hx hb dL_law_30 (by decide) ?_
    refine lv_iand hx hb dL_law_32 ?_
    refine lv_topi (fun z ez => ?_)
    rcases (show z.toInt = 0 ∨ z.toInt = 1 ∨ z.toInt = 2 ∨ z.toInt = 3 ∨ z.toInt = 4 ∨ z.toInt = 5 ∨ z.toInt = 6 ∨ z.toInt = 7 ∨ z.toInt = 8 ∨ z.toInt = 9 ∨ z.toInt = 10 ∨ z.toInt = 11 ∨ z.toInt = 12 ∨ z.toInt = 13 ∨ z.toInt = 14 ∨ z.toInt = 15 ∨ z.toInt = 16 ∨ z.toInt = 17 ∨ z.toInt = 18 ∨ z.toInt = 19 ∨ z.toInt = 20 ∨ z.toInt = 21 ∨ z.toInt = 22 ∨ z.toInt = 23 ∨ z.toInt = 24 ∨ z.toInt = 25 ∨ z.toInt = 26 ∨ z.toInt = 27 ∨ z.toInt = 28 ∨ z.toInt = 29 ∨ z.toInt = 30 ∨ z.toInt = 31 ∨ z.toInt = 32 ∨ z.toInt = 33 ∨ z.toInt = 34 ∨ z.toInt = 35 ∨ z.toInt = 36 ∨ z.toInt = 37 ∨ z.toInt = 38 ∨ z.toInt = 39 ∨ z.toInt = 40 ∨ z.toInt = 41 ∨ z.toInt = 42 ∨ z.toInt = 43 ∨ z.toInt = 44 ∨ (z.toInt < 0 ∨ 44 < z.toInt) by omega) with c9 | c9 | c9 | c9 | c9 | c9 | c9 | c9 | c9 | c9 | c9 | c9 | c9 | c9 | c9 | c9 | c9 | c9 | c9 | c9 | c9 | c9 | c9 | c9 | c9 | c9 | c9 | c9 | c9 | c9 | c9 | c9 | c9 | c9 | c9 | c9 | c9 | c9 | c9 | c9 | c9 | c9 | c9 | c9 | c9 | c9
    · refine lv_tableIn (tgt := 228) hx hb dL_law_33 (by omega) (by omega) (by rw [c9]; rfl) (by decide) ?_
      exact tl_law_0 l C0 D cy hK hN q_1 q_5 u_4 u_8 hsd hAe hP hD hS hl
    · refine lv_tableIn (tgt := 251) hx hb dL_law_33 (by omega) (by omega) (by rw [c9]; rfl) (by decide) ?_
      exact tl_law_1 l C0 D cy hK hN q_1 q_5 u_4 u_8 hsd hAe hP hD hS hl
    · refine lv_tableIn (tgt := 284) hx hb dL_law_33 (by omega) (by omega) (by rw [c9]; rfl) (by decide) ?_
      exact tl_law_2 l C0 D cy hK hN q_1 q_5 u_4 u_8 hsd hAe hP hD hS hl
    · refine lv_tableIn (tgt := 327) hx hb dL_law_33 (by omega) (by omega) (by rw [c9]; rfl) (by decide) ?_
      exact tl_law_3 l C0 D cy hK hN q_1 q_5 u_4 u_8 hsd hAe hP hD hS hl
    · refine lv_tableIn (tgt := 360) hx hb dL_law_33 (by omega) (by omega) (by rw [c9]; rfl) (by decide) ?_
      exact tl_law_4 l C0 D cy hK hN q_1 q_5 u_4 u_8 hsd hAe hP hD hS hl
    · refine lv_tableIn (tgt := 413) hx hb dL_law_33 (by omega) (by omega) (by rw [c9]; rfl) (by decide) ?_
      exact tl_law_5 l C0 D cy hK hN q_1 q_5 u_4 u_8 hsd hAe hP hD hS hl
    · refine lv_tableIn (tgt := 446) hx hb dL_law_33 (by omega) (by omega) (by rw [c9]; rfl) (by decide) ?_
      exact tl_law_6 l C0 D cy hK hN q_1 q_5 u_4 u_8 hsd hAe hP hD hS hl
    · refine lv_tableIn (tgt := 489) hx hb dL_law_33 (by omega) (by omega) (by rw [c9]; rfl) (by decide) ?_
      exact tl_law_7 l C0 D cy hK hN q_1 q_5 u_4 u_8 hsd hAe hP hD hS hl
    · refine lv_tableIn (tgt := 552) hx hb dL_law_33 (by omega) (by omega) (by rw [c9]; rfl) (by decide) ?_
      exact tl_law_8 l C0 D cy hK hN q_1 q_5 u_4 u_8 hsd hAe hP hD hS hl
    · refine lv_tableIn (tgt := 575) hx hb dL_law_33 (by omega) (by omega) (by rw [c9]; rfl) (by decide) ?_
      exact tl_law_9 l C0 D cy hK hN q_1 q_5 u_4 u_8 hsd hAe hP hD hS hl
    · refine lv_tableIn (tgt := 598) hx hb dL_law_33 (by omega) (by omega) (by rw [c9]; rfl) (by decide) ?_
      exact tl_law_10 l C0 D cy hK hN q_1 q_5 u_4 u_8 hsd hAe hP hD hS hl
    · refine lv_tableIn (tgt := 661) hx hb dL_law_33 (by omega) (by omega) (by rw [c9]; rfl) (by decide) ?_
      exact tl_law_11 l C0 D cy hK hN q_1 q_5 u_4 u_8 hsd hAe hP hD hS hl
    · refine lv_tableIn (tgt := 714) hx hb dL_law_33 (by omega) (by omega) (by rw [c9]; rfl) (by decide) ?_
      exact tl_law_12 l C0 D cy hK hN q_1 q_5 u_4 u_8 hsd hAe hP hD hS hl
    · refine lv_tableIn (tgt := 758) hx hb dL_law_33 (by omega) (by omega) (by rw [c9]; rfl) (by decide) ?_
      exact tl_law_13 l C0 D cy hK hN q_1 q_5 u_4 u_8 hsd hAe hP hD hS hl
    · refine lv_tableIn (tgt := 802) hx hb dL_law_33 (by omega) (by omega) (by rw [c9]; rfl) (by decide) ?_
      exact tl_law_14 l C0 D cy hK hN q_1 q_5 u_4 u_8 hsd hAe hP hD hS hl
    · refine lv_tableIn (tgt := 845) hx hb dL_law_33 (by omega) (by omega) (by rw [c9]; rfl) (by decide) ?_
      exact tl_law_15 l C0 D cy hK hN q_1 q_5 u_4 u_8 hsd hAe hP hD hS hl
    · refine lv_tableIn (tgt := 908) hx hb dL_law_33 (by omega) (by omega) (by rw [c9]; rfl) (by decide) ?_
      exact tl_law_16 l C0 D cy hK hN q_1 q_5 u_4 u_8 hsd hAe hP hD hS hl
    · refine lv_tableIn (tgt := 952) hx hb dL_law_33 (by omega) (by omega) (by rw [c9]; rfl) (by decide) ?_
      exact tl_law_17 l C0 D cy hK hN q_1 q_5 u_4 u_8 hsd hAe hP hD hS hl
    · refine lv_tableIn (tgt := 1006) hx hb dL_law_33 (by omega) (by omega) (by rw [c9]; rfl) (by decide) ?_
      exact tl_law_18 l C0 D cy hK hN q_1 q_5 u_4 u_8 hsd hAe hP hD hS hl
    · refine lv_tableIn (tgt := 1059) hx hb dL_law_33 (by omega) (by omega) (by rw [c9]; rfl) (by decide) ?_
      exact tl_law_19 l C0 D cy hK hN q_1 q_5 u_4 u_8 hsd hAe hP hD hS hl
    · refine lv_tableIn (tgt := 1102) hx hb dL_law_33 (by omega) (by omega) (by rw [c9]; rfl) (by decide) ?_
      exact tl_law_20 l C0 D cy hK hN q_1 q_5 u_4 u_8 hsd hAe hP hD hS hl
    · refine lv_tableIn (tgt := 1156) hx hb dL_law_33 (by omega) (by omega) (by rw [c9]; rfl) (by decide) ?_
      exact tl_law_21 l C0 D cy hK hN q_1 q_5 u_4 u_8 hsd hAe hP hD hS hl
    · refine lv_tableIn (tgt := 1189) hx hb dL_law_33 (by omega) (by omega) (by rw [c9]; rfl) (by decide) ?_
      exact tl_law_22 l C0 D cy hK hN q_1 q_5 u_4 u_8 hsd hAe hP hD hS hl
    · refine lv_tableIn (tgt := 1242) hx hb dL_law_33 (by omega) (by omega) (by rw [c9]; rfl) (by decide) ?_
      exact tl_law_23 l C0 D cy hK hN q_1 q_5 u_4 u_8 hsd hAe hP hD hS hl
    · refine lv_tableIn (tgt := 1285) hx hb dL_law_33 (by omega) (by omega) (by rw [c9]; rfl) (by decide) ?_
      exact tl_law_24 l C0 D cy hK hN q_1 q_5 u_4 u_8 hsd hAe hP hD hS hl
    · refine lv_tableIn (tgt := 1328) hx hb dL_law_33 (by omega) (by omega) (by rw [c9]; rfl) (by decide) ?_
      exact tl_law_25 l C0 D cy hK hN q_1 q_5 u_4 u_8 hsd hAe hP hD hS hl
    · refine lv_tableIn (tgt := 1403) hx hb dL_law_33 (by omega) (by omega) (by rw [c9]; rfl) (by decide) ?_
      exact tl_law_26 l C0 D cy hK hN q_1 q_5 u_4 u_8 hsd hAe hP hD hS hl
    · refine lv_tableIn (tgt := 1447) hx hb dL_law_33 (by omega) (by omega) (by rw [c9]; rfl) (by decide) ?_
      exact tl_law_27 l C0 D cy hK hN q_1 q_5 u_4 u_8 hsd hAe hP hD hS hl
    · refine lv_tableIn (tgt := 1480) hx hb dL_law_33 (by omega) (by omega) (by rw [c9]; rfl) (by decide) ?_
      exact tl_law_28 l C0 D cy hK hN q_1 q_5 u_4 u_8 hsd hAe hP hD hS hl
    · refine lv_tableIn (tgt := 1523) hx hb dL_law_33 (by omega) (by omega) (by rw [c9]; rfl) (by decide) ?_
      exact tl_law_29 l C0 D cy hK hN q_1 q_5 u_4 u_8 hsd hAe hP hD hS hl
    · refine lv_tableIn (tgt := 1556) hx hb dL_law_33 (by omega) (by omega) (by rw [c9]; rfl) (by decide) ?_
      exact tl_law_30 l C0 D cy hK hN q_1 q_5 u_4 u_8 hsd hAe hP hD hS hl
    · refine lv_tableIn (tgt := 1600) hx hb dL_law_33 (by omega) (by omega) (by rw [c9]; rfl) (by decide) ?_
      exact tl_law_31 l C0 D cy hK hN q_1 q_5 u_4 u_8 hsd hAe hP hD hS hl
    · refine lv_tableIn (tgt := 1643) hx hb dL_law_33 (by omega) (by omega) (by rw [c9]; rfl) (by decide) ?_
      exact tl_law_32 l C0 D cy hK hN q_1 q_5 u_4 u_8 hsd hAe hP hD hS hl
    · refine lv_tableIn (tgt := 1676) hx hb dL_law_33 (by omega) (by omega) (by rw [c9]; rfl) (by decide) ?_
      exact tl_law_33 l C0 D cy hK hN q_1 q_5 u_4 u_8 hsd hAe hP hD hS hl
    · refine lv_tableIn (tgt := 1699) hx hb dL_law_33 (by omega) (by omega) (by rw [c9]; rfl) (by decide) ?_
      exact tl_law_34 l C0 D cy hK hN q_1 q_5 u_4 u_8 hsd hAe hP hD hS hl
    · refine lv_tableIn (tgt := 1722) hx hb dL_law_33 (by omega) (by omega) (by rw [c9]; rfl) (by decide) ?_
      exact tl_law_35 l C0 D cy hK hN q_1 q_5 u_4 u_8 hsd hAe hP hD hS hl
    · refine lv_tableIn (tgt := 1755) hx hb dL_law_33 (by omega) (by omega) (by rw [c9]; rfl) (by decide) ?_
      exact tl_law_36 l C0 D cy hK hN q_1 q_5 u_4 u_8 hsd hAe hP hD hS hl
    · refine lv_tableIn (tgt := 1788) hx hb dL_law_33 (by omega) (by omega) (by rw [c9]; rfl) (by decide) ?_
      exact tl_law_37 l C0 D cy hK hN q_1 q_5 u_4 u_8 hsd hAe hP hD hS hl
    · refine lv_tableIn (tgt := 1832) hx hb dL_law_33 (by omega) (by omega) (by rw [c9]; rfl) (by decide) ?_
      exact tl_law_38 l C0 D cy hK hN q_1 q_5 u_4 u_8 hsd hAe hP hD hS hl
    · refine lv_tableIn (tgt := 1865) hx hb dL_law_33 (by omega) (by omega) (by rw [c9]; rfl) (by decide) ?_
      exact tl_law_39 l C0 D cy hK hN q_1 q_5 u_4 u_8 hsd hAe hP hD hS hl
    · refine lv_tableIn (tgt := 1888) hx hb dL_law_33 (by omega) (by omega) (by rw [c9]; rfl) (by decide) ?_
      exact tl_law_40 l C0 D cy hK hN q_1 q_5 u_4 u_8 hsd hAe hP hD hS hl
    · refine lv_tableIn (tgt := 1911) hx hb dL_law_33 (by omega) (by omega) (by rw [c9]; rfl) (by decide) ?_
      exact tl_law_41 l C0 D cy hK hN q_1 q_5 u_4 u_8 hsd hAe hP hD hS hl
    · refine lv_tableIn (tgt := 1944) hx hb dL_law_33 (by omega) (by omega) (by rw [c9]; rfl) (by decide) ?_
      exact tl_law_42 l C0 D cy hK hN q_1 q_5 u_4 u_8 hsd hAe hP hD hS hl
    · refine lv_tableIn (tgt := 1967) hx hb dL_law_33 (by omega) (by omega) (by rw [c9]; rfl) (by decide) ?_
      exact tl_law_43 l C0 D cy hK hN q_1 q_5 u_4 u_8 hsd hAe hP hD hS hl
    · refine lv_tableIn (tgt := 1990) hx hb dL_law_33 (by omega) (by omega) (by rw [c9]; rfl) (by decide) ?_
      exact tl_law_44 l C0 D cy hK hN q_1 q_5 u_4 u_8 hsd hAe hP hD hS hl
    · refine lv_tableOut (tgt := 2013) hx hb dL_law_33 (by omega) (by decide) ?_
      exact tl_end l C0 (hAe ▸ hS) hl (Nat.le_of_ble_eq_true rfl) (Nat.le_of_ble_eq_true rfl)

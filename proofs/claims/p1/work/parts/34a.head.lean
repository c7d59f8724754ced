theorem tl_K_of {s : State} {D : va_G} (hKc : ∀ (k : Nat) (q : vw_C), vwCl[k]? = some q → u_Kn s q.1 q.2.1 q.2.2 (D.1 k) (D.2 k)) {a0 a1 a2 a3 a4 a5 a6 : ClassId} (h0 : ArrOfT s a0 .int ∧ va_RA s a0 .int) (h1 : ArrOfT s a1 .long ∧ va_RA s a1 .long) (h2 : ArrOfT s a2 .boolean ∧ va_RA s a2 .boolean) (h3 : ArrOfT s a3 .byte ∧ va_RA s a3 .byte) (h4 : ArrOfT s a4 (.object "ThinLine$Book") ∧ va_RA s a4 (.object "ThinLine$Book")) (h5 : ArrOfT s a5 (.object "ThinLine$Text") ∧ va_RA s a5 (.object "ThinLine$Text")) (h6 : ArrOfT s a6 (.array .int) ∧ va_RA s a6 (.array .int)) : ∃ cy : Nat → ClassId, va_K D vwCl (tl_T cy) s :=
  ⟨fun k => ([a0, a1, a2, a3, a4, a5, a6] : List ClassId).getD k a0, hKc, fun k q hk => by
    match k, hk with
    | 0, hk => cases hk; exact h0
    | 1, hk => cases hk; exact h1
    | 2, hk => cases hk; exact h2
    | 3, hk => cases hk; exact h3
    | 4, hk => cases hk; exact h4
    | 5, hk => cases hk; exact h5
    | 6, hk => cases hk; exact h6
    | k + 7, hk => simp [tl_T] at hk⟩
theorem tl_prim {args : Array Value} {s : State} {t : FieldType} (h : (Cond.arrayClass t).before args s = true) (ho : ∀ C, t ≠ .object C) : ∃ c : ClassId, ArrOfT s c t ∧ va_RA s c t := by
  obtain ⟨c, k, comp, h1, h2, h3⟩ := Cond.arrayClass_spec h
  refine ⟨c, fun N z => ⟨(fun q hq => by cases hq), k, h2, comp, h3⟩, ?_⟩
  cases t <;> first | exact h1 | exact absurd rfl (ho _)
theorem tl_obj {args : Array Value} {s : State} {C : String} (h : (Cond.arrayOver (.object C)).before args s = true) : ∃ c : ClassId, ArrOfT s c (.object C) ∧ va_RA s c (.object C) := by
  obtain ⟨comp, c, k, h1, h2, h3, h4, h5⟩ := Cond.arrayOver_spec h
  exact ⟨c, fun N z => ⟨(fun q hq => by cases hq), k, h3, comp, h4⟩, k, comp, h3, h4, h1, h5⟩
theorem tl_arr {args : Array Value} {s : State} {t : FieldType} (h : (Cond.arrayOver (.array t)).before args s = true) : ∃ c : ClassId, ArrOfT s c (.array t) ∧ va_RA s c (.array t) := by
  obtain ⟨comp, c, k, h1, h2, h3, h4, h5⟩ := arrayOverA_spec h
  exact ⟨c, fun N z => ⟨(fun q hq => by cases hq), k, h3, comp, h4⟩, h5⟩
theorem tl_tin {z : Int32} {n : Nat} (hz : z.toInt = (n : Int)) (hn : n ≤ 44) : ¬ z.toInt < 0 ∧ ¬ 44 < z.toInt := by omega
set_option maxHeartbeats 8000000 in
set_option maxRecDepth 100000 in
theorem tl_head {p : Program} {e : Env} {s : State} {m : MethodId} {below : List Frame} {meth : Method} {c : Code} (l : Launch) {b L : Nat} {xs : Nat → Int32} (hL : L ≤ 7) (C0 : lw_At p s m meth c b L xs) (D : va_G) (cy : Nat → ClassId) (hK : va_K D vwCl (tl_T cy) s) (hN : tl_ok s) (xq mq : Nat) (u : (Nat → Nat) × (Nat → Nat)) (v : (Nat → Nat) × (Nat → Int32)) (hsd : ∀ k : Nat, (k < 441 ∨ 7641 ≤ k) → v.2 k = 0) {A : Nat → Prop} (hAe : A = fun q : Nat => s.heap.size ≤ q) {H : Heap} {locs : List Loc} {ls : Array Slot} (hP : va_P D vwCl [(xq, .inr (11, [.ref (u.1 0), .ref (u.1 1), .ref (u.1 2), .ref (u.1 3), .ref (u.1 4), .ref (u.1 5), .ref (u.1 6), .ref (u.1 7), .ref (u.1 8), .ref (u.1 9), .ref (u.1 10), .ref (u.1 11), .ref (u.1 12), .ref (u.1 13), .ref (u.1 14), .ref (u.1 15)])), ((u.1 0), .inr (0, [.int 0, .ref (u.1 16), .ref (u.1 17), .ref (u.1 18), .ref (u.1 19), .ref (u.1 20), .ref (u.1 21), .ref (u.1 22), .int 0])), ((u.1 16), .inl (cy 0, 4, .inl (fun _ => 0))), ((u.1 17), .inr (4, [.int 0, .int 0, .ref (u.1 23), .ref (u.1 24), .ref (u.1 25), .ref (u.1 26)])), ((u.1 23), .inl (cy 0, 24, .inl (fun _ => 0))), ((u.1 24), .inl (cy 0, 24, .inl (fun _ => 0))), ((u.1 25), .inl (cy 0, 24, .inl (fun _ => 0))), ((u.1 26), .inl (cy 6, 24, .inr (.inr (.inr (.inr (fun i => if i < 24 then some (u.2 i) else none)))))), ((u.2 0), .inl (cy 0, 300, .inl (fun _ => 0))), ((u.1 18), .inr (6, [.int 40, .ref (u.1 27), .int 0])), ((u.1 27), .inl (cy 0, 160, .inl (fun _ => 0))), ((u.1 19), .inr (6, [.int 60, .ref (u.1 28), .int 0])), ((u.1 28), .inl (cy 0, 240, .inl (fun _ => 0))), ((u.1 20), .inr (6, [.int 10, .ref (u.1 29), .int 0])), ((u.1 29), .inl (cy 0, 40, .inl (fun _ => 0))), ((u.1 21), .inr (6, [.int 8, .ref (u.1 30), .int 0])), ((u.1 30), .inl (cy 0, 32, .inl (fun _ => 0))), ((u.1 22), .inl (cy 0, 400, .inl (fun _ => 0))), ((u.1 1), .inl (cy 4, 4, .inr (.inr (.inr (.inr (fun _ => none)))))), ((u.1 2), .inr (8, [.ref (u.1 31), .int 0])), ((u.1 31), .inl (cy 5, 6, .inr (.inr (.inr (.inr (fun _ => none)))))), ((u.1 3), .inr (8, [.ref (u.1 32), .int 0])), ((u.1 32), .inl (cy 5, 8, .inr (.inr (.inr (.inr (fun _ => none)))))), ((u.1 4), .inr (8, [.ref (u.1 33), .int 0])), ((u.1 33), .inl (cy 5, 8, .inr (.inr (.inr (.inr (fun _ => none)))))), ((u.1 5), .inr (2, [.ref (u.1 34), .ref (u.1 35), .int 0, .int 0, .int 0, .int 0])), ((u.1 34), .inr (9, [.ref (u.1 36), .ref (u.1 37), .ref (u.1 38), .int 0])), ((u.1 36), .inl (cy 0, 401, .inl (fun _ => 0))), ((u.1 37), .inl (cy 0, 401, .inl (fun _ => 0))), ((u.1 38), .inl (cy 0, 401, .inl (fun _ => 0))), ((u.1 6), .inr (7, [.int 0, .ref (u.1 39), .ref (u.1 40), .ref (u.1 41), .ref (u.1 42), .ref (u.1 43), .ref (u.1 44), .ref (u.1 45), .int 0])), ((u.1 13), .inl (cy 0, 8, .inl (fun _ => 0))), ((u.1 15), .inl (cy 0, 8, .inl (fun _ => 0))), (mq, .inr (12, [.ref (v.1 0), .ref (v.1 1), .int 0, .ref (v.1 3), .ref (v.1 4), .ref (v.1 5), .ref (v.1 6), .ref (v.1 7), .ref (v.1 8), .ref (v.1 9), .ref (v.1 10), .ref (v.1 11), .ref (v.1 12), .ref (v.1 13), .ref (v.1 14), .ref (v.1 15), .ref (v.1 16), .int 0, .int 0, .int 0, .int 0, .int 0, .int 0, .int 0, .ref (v.1 24), .int 0, .ref (v.1 26), .int 0, .ref (v.1 28), .long 0, .ref (v.1 30), .ref (v.1 31), .int 0, .int 0, .int 0, .ref (v.1 35), .ref (v.1 36), .int 0, .ref (v.1 38), .int 0, .int 0, .ref (v.1 41), .ref (v.1 42), .ref (v.1 43), .ref (v.1 44), .ref (v.1 45), .ref (v.1 46), .ref (v.1 47), .ref (v.1 48)])), ((v.1 0), .inl (cy 0, 7666, .inl v.2)), ((v.1 1), .inl (cy 3, 400, .inl (fun _ => 0))), ((v.1 3), .inl (cy 0, 3, .inl (fun _ => 0))), ((v.1 5), .inl (cy 0, 22, .inl (fun _ => 0))), ((v.1 7), .inl (cy 0, 22, .inl (fun _ => 0))), ((v.1 9), .inl (cy 0, 6, .inl (fun _ => 0))), ((v.1 10), .inl (cy 0, 22, .inl (fun _ => 0))), ((v.1 12), .inl (cy 0, 22, .inl (fun _ => 0))), ((v.1 13), .inl (cy 0, 22, .inl (fun _ => 0))), ((v.1 14), .inl (cy 0, 22, .inl (fun _ => 0))), ((v.1 16), .inl (cy 0, 22, .inl (fun _ => 0))), ((v.1 47), .inl (cy 0, 30664, .inl (fun _ => 0))), ((v.1 48), .inl (cy 2, 4, .inl (fun _ => 0)))] H) (hD : va_D A [(xq, .inr (11, [.ref (u.1 0), .ref (u.1 1), .ref (u.1 2), .ref (u.1 3), .ref (u.1 4), .ref (u.1 5), .ref (u.1 6), .ref (u.1 7), .ref (u.1 8), .ref (u.1 9), .ref (u.1 10), .ref (u.1 11), .ref (u.1 12), .ref (u.1 13), .ref (u.1 14), .ref (u.1 15)])), ((u.1 0), .inr (0, [.int 0, .ref (u.1 16), .ref (u.1 17), .ref (u.1 18), .ref (u.1 19), .ref (u.1 20), .ref (u.1 21), .ref (u.1 22), .int 0])), ((u.1 16), .inl (cy 0, 4, .inl (fun _ => 0))), ((u.1 17), .inr (4, [.int 0, .int 0, .ref (u.1 23), .ref (u.1 24), .ref (u.1 25), .ref (u.1 26)])), ((u.1 23), .inl (cy 0, 24, .inl (fun _ => 0))), ((u.1 24), .inl (cy 0, 24, .inl (fun _ => 0))), ((u.1 25), .inl (cy 0, 24, .inl (fun _ => 0))), ((u.1 26), .inl (cy 6, 24, .inr (.inr (.inr (.inr (fun i => if i < 24 then some (u.2 i) else none)))))), ((u.2 0), .inl (cy 0, 300, .inl (fun _ => 0))), ((u.1 18), .inr (6, [.int 40, .ref (u.1 27), .int 0])), ((u.1 27), .inl (cy 0, 160, .inl (fun _ => 0))), ((u.1 19), .inr (6, [.int 60, .ref (u.1 28), .int 0])), ((u.1 28), .inl (cy 0, 240, .inl (fun _ => 0))), ((u.1 20), .inr (6, [.int 10, .ref (u.1 29), .int 0])), ((u.1 29), .inl (cy 0, 40, .inl (fun _ => 0))), ((u.1 21), .inr (6, [.int 8, .ref (u.1 30), .int 0])), ((u.1 30), .inl (cy 0, 32, .inl (fun _ => 0))), ((u.1 22), .inl (cy 0, 400, .inl (fun _ => 0))), ((u.1 1), .inl (cy 4, 4, .inr (.inr (.inr (.inr (fun _ => none)))))), ((u.1 2), .inr (8, [.ref (u.1 31), .int 0])), ((u.1 31), .inl (cy 5, 6, .inr (.inr (.inr (.inr (fun _ => none)))))), ((u.1 3), .inr (8, [.ref (u.1 32), .int 0])), ((u.1 32), .inl (cy 5, 8, .inr (.inr (.inr (.inr (fun _ => none)))))), ((u.1 4), .inr (8, [.ref (u.1 33), .int 0])), ((u.1 33), .inl (cy 5, 8, .inr (.inr (.inr (.inr (fun _ => none)))))), ((u.1 5), .inr (2, [.ref (u.1 34), .ref (u.1 35), .int 0, .int 0, .int 0, .int 0])), ((u.1 34), .inr (9, [.ref (u.1 36), .ref (u.1 37), .ref (u.1 38), .int 0])), ((u.1 36), .inl (cy 0, 401, .inl (fun _ => 0))), ((u.1 37), .inl (cy 0, 401, .inl (fun _ => 0))), ((u.1 38), .inl (cy 0, 401, .inl (fun _ => 0))), ((u.1 6), .inr (7, [.int 0, .ref (u.1 39), .ref (u.1 40), .ref (u.1 41), .ref (u.1 42), .ref (u.1 43), .ref (u.1 44), .ref (u.1 45), .int 0])), ((u.1 13), .inl (cy 0, 8, .inl (fun _ => 0))), ((u.1 15), .inl (cy 0, 8, .inl (fun _ => 0))), (mq, .inr (12, [.ref (v.1 0), .ref (v.1 1), .int 0, .ref (v.1 3), .ref (v.1 4), .ref (v.1 5), .ref (v.1 6), .ref (v.1 7), .ref (v.1 8), .ref (v.1 9), .ref (v.1 10), .ref (v.1 11), .ref (v.1 12), .ref (v.1 13), .ref (v.1 14), .ref (v.1 15), .ref (v.1 16), .int 0, .int 0, .int 0, .int 0, .int 0, .int 0, .int 0, .ref (v.1 24), .int 0, .ref (v.1 26), .int 0, .ref (v.1 28), .long 0, .ref (v.1 30), .ref (v.1 31), .int 0, .int 0, .int 0, .ref (v.1 35), .ref (v.1 36), .int 0, .ref (v.1 38), .int 0, .int 0, .ref (v.1 41), .ref (v.1 42), .ref (v.1 43), .ref (v.1 44), .ref (v.1 45), .ref (v.1 46), .ref (v.1 47), .ref (v.1 48)])), ((v.1 0), .inl (cy 0, 7666, .inl v.2)), ((v.1 1), .inl (cy 3, 400, .inl (fun _ => 0))), ((v.1 3), .inl (cy 0, 3, .inl (fun _ => 0))), ((v.1 5), .inl (cy 0, 22, .inl (fun _ => 0))), ((v.1 7), .inl (cy 0, 22, .inl (fun _ => 0))), ((v.1 9), .inl (cy 0, 6, .inl (fun _ => 0))), ((v.1 10), .inl (cy 0, 22, .inl (fun _ => 0))), ((v.1 12), .inl (cy 0, 22, .inl (fun _ => 0))), ((v.1 13), .inl (cy 0, 22, .inl (fun _ => 0))), ((v.1 14), .inl (cy 0, 22, .inl (fun _ => 0))), ((v.1 16), .inl (cy 0, 22, .inl (fun _ => 0))), ((v.1 47), .inl (cy 0, 30664, .inl (fun _ => 0))), ((v.1 48), .inl (cy 2, 4, .inl (fun _ => 0)))]) (hS : va_S A s.heap H locs) (hl : lv_has ls 4 [(3, .int 0), (2, .ref mq), (1, .ref xq), (0, .ref b)]) : W p l e room_1 s m #[Value.ref b] below meth c H locs 125 63803 (lw_Z below #[Value.ref b] s) (F0 m 18 ls []) := by
  obtain ⟨hx, hb, hr, hml, hown, hts, hX, hbl, hlocks, hgv⟩ := id C0
  have hbA : ¬ A b := by rw [hAe]; exact Nat.not_le.mpr hbl
  rcases Nat.lt_or_ge L 7 with hlt | hge
  · refine lv_iload_n hx hb dL_law_18 rfl (lv_at hl 0 rfl) ?_
    refine lv_aload_n hx hb dL_law_19 rfl (lv_at hl 3 rfl) ?_
    refine va_slen hx hb hX hbl hbA hS dL_law_20 ?_
    refine lv_bipush (v := 7) hx hb dL_law_21 (by decide) ?_
    refine lv_isub hx hb dL_law_23 ?_
    refine lv_icmp_gt (tgt := 2019) hx hb dL_law_24 (by decide) (fun _ => ?_) (fun c9 => absurd (tl_short L hlt) c9)
    refine lv_iconst (v := 1) hx hb dL_law_2019 (by decide) ?_
    subst hAe
    refine va_forget (fun q hq => hS.2.2 q hq) ?_
    refine W.widen (k := 600000) (n := 7302249) (Nat.le_of_ble_eq_true rfl) (Nat.le_of_ble_eq_true rfl) ?_
    exact lw_ret hx hb hr hlocks dL_law_2020
  · obtain rfl : L = 7 := by omega
    refine lv_iload_n hx hb dL_law_18 rfl (lv_at hl 0 rfl) ?_
    refine lv_aload_n hx hb dL_law_19 rfl (lv_at hl 3 rfl) ?_
    refine va_slen hx hb hX hbl hbA hS dL_law_20 ?_
    refine lv_bipush (v := 7) hx hb dL_law_21 (by decide) ?_
    refine lv_isub hx hb dL_law_23 ?_
    refine lv_topi (fun z ez => ?_)
    obtain rfl : z = (0 : Int32) := ez.trans (by decide)
    refine lv_icmp_gt (tgt := 2019) hx hb dL_law_24 (by decide) (fun c9 => absurd c9 (by decide)) (fun _ => ?_)
    refine lv_aload_n hx hb dL_law_27 rfl (lv_at hl 3 rfl) ?_
    refine lv_iload_n hx hb dL_law_28 rfl (lv_at hl 0 rfl) ?_
    refine va_sld hx hb hX hbl hbA hS (tl_in (by decide) (by decide)) dL_law_29 ?_
    refine lv_bipush (v := 63) hx hb dL_law_30 (by decide) ?_
    refine lv_iand hx hb dL_law_32 ?_
    refine lv_topi (fun z ez => ?_)
    clear ez
    by_cases c9 : z.toInt < 0
    · refine lv_tableOut (tgt := 2013) hx hb dL_law_33 (Or.inl c9) (by decide) ?_
      exact tl_end l C0 (hAe ▸ hS) hl (Nat.le_of_ble_eq_true rfl) (Nat.le_of_ble_eq_true rfl)
    obtain ⟨n, hz⟩ : ∃ n : Nat, z.toInt = (n : Int) := ⟨z.toInt.toNat, by omega⟩
    rcases n with _ | n
    · refine lv_tableIn (tgt := 228) hx hb dL_law_33 (tl_tin hz (by decide)).1 (tl_tin hz (by decide)).2 (by rw [hz]; rfl) (by decide) ?_
      exact tl_law_0 l C0 D cy hK hN xq mq u v hsd hAe hP hD hS hl
    rcases n with _ | n
    · refine lv_tableIn (tgt := 251) hx hb dL_law_33 (tl_tin hz (by decide)).1 (tl_tin hz (by decide)).2 (by rw [hz]; rfl) (by decide) ?_
      exact tl_law_1 l C0 D cy hK hN xq mq u v hsd hAe hP hD hS hl
    rcases n with _ | n
    · refine lv_tableIn (tgt := 284) hx hb dL_law_33 (tl_tin hz (by decide)).1 (tl_tin hz (by decide)).2 (by rw [hz]; rfl) (by decide) ?_
      exact tl_law_2 l C0 D cy hK hN xq mq u v hsd hAe hP hD hS hl
    rcases n with _ | n
    · refine lv_tableIn (tgt := 327) hx hb dL_law_33 (tl_tin hz (by decide)).1 (tl_tin hz (by decide)).2 (by rw [hz]; rfl) (by decide) ?_
      exact tl_law_3 l C0 D cy hK hN xq mq u v hsd hAe hP hD hS hl
    rcases n with _ | n
    · refine lv_tableIn (tgt := 360) hx hb dL_law_33 (tl_tin hz (by decide)).1 (tl_tin hz (by decide)).2 (by rw [hz]; rfl) (by decide) ?_
      exact tl_law_4 l C0 D cy hK hN xq mq u v hsd hAe hP hD hS hl
    rcases n with _ | n
    · refine lv_tableIn (tgt := 413) hx hb dL_law_33 (tl_tin hz (by decide)).1 (tl_tin hz (by decide)).2 (by rw [hz]; rfl) (by decide) ?_
      exact tl_law_5 l C0 D cy hK hN xq mq u v hsd hAe hP hD hS hl
    rcases n with _ | n
    · refine lv_tableIn (tgt := 446) hx hb dL_law_33 (tl_tin hz (by decide)).1 (tl_tin hz (by decide)).2 (by rw [hz]; rfl) (by decide) ?_
      exact tl_law_6 l C0 D cy hK hN xq mq u v hsd hAe hP hD hS hl
    rcases n with _ | n
    · refine lv_tableIn (tgt := 489) hx hb dL_law_33 (tl_tin hz (by decide)).1 (tl_tin hz (by decide)).2 (by rw [hz]; rfl) (by decide) ?_
      exact tl_law_7 l C0 D cy hK hN xq mq u v hsd hAe hP hD hS hl
    rcases n with _ | n
    · refine lv_tableIn (tgt := 552) hx hb dL_law_33 (tl_tin hz (by decide)).1 (tl_tin hz (by decide)).2 (by rw [hz]; rfl) (by decide) ?_
      exact tl_law_8 l C0 D cy hK hN xq mq u v hsd hAe hP hD hS hl
    rcases n with _ | n
    · refine lv_tableIn (tgt := 575) hx hb dL_law_33 (tl_tin hz (by decide)).1 (tl_tin hz (by decide)).2 (by rw [hz]; rfl) (by decide) ?_
      exact tl_law_9 l C0 D cy hK hN xq mq u v hsd hAe hP hD hS hl
    rcases n with _ | n
    · refine lv_tableIn (tgt := 598) hx hb dL_law_33 (tl_tin hz (by decide)).1 (tl_tin hz (by decide)).2 (by rw [hz]; rfl) (by decide) ?_
      exact tl_law_10 l C0 D cy hK hN xq mq u v hsd hAe hP hD hS hl
    rcases n with _ | n
    · refine lv_tableIn (tgt := 661) hx hb dL_law_33 (tl_tin hz (by decide)).1 (tl_tin hz (by decide)).2 (by rw [hz]; rfl) (by decide) ?_
      exact tl_law_11 l C0 D cy hK hN xq mq u v hsd hAe hP hD hS hl
    rcases n with _ | n
    · refine lv_tableIn (tgt := 714) hx hb dL_law_33 (tl_tin hz (by decide)).1 (tl_tin hz (by decide)).2 (by rw [hz]; rfl) (by decide) ?_
      exact tl_law_12 l C0 D cy hK hN xq mq u v hsd hAe hP hD hS hl
    rcases n with _ | n
    · refine lv_tableIn (tgt := 758) hx hb dL_law_33 (tl_tin hz (by decide)).1 (tl_tin hz (by decide)).2 (by rw [hz]; rfl) (by decide) ?_
      exact tl_law_13 l C0 D cy hK hN xq mq u v hsd hAe hP hD hS hl
    rcases n with _ | n
    · refine lv_tableIn (tgt := 802) hx hb dL_law_33 (tl_tin hz (by decide)).1 (tl_tin hz (by decide)).2 (by rw [hz]; rfl) (by decide) ?_
      exact tl_law_14 l C0 D cy hK hN xq mq u v hsd hAe hP hD hS hl
    rcases n with _ | n
    · refine lv_tableIn (tgt := 845) hx hb dL_law_33 (tl_tin hz (by decide)).1 (tl_tin hz (by decide)).2 (by rw [hz]; rfl) (by decide) ?_
      exact tl_law_15 l C0 D cy hK hN xq mq u v hsd hAe hP hD hS hl
    rcases n with _ | n
    · refine lv_tableIn (tgt := 908) hx hb dL_law_33 (tl_tin hz (by decide)).1 (tl_tin hz (by decide)).2 (by rw [hz]; rfl) (by decide) ?_
      exact tl_law_16 l C0 D cy hK hN xq mq u v hsd hAe hP hD hS hl
    rcases n with _ | n
    · refine lv_tableIn (tgt := 952) hx hb dL_law_33 (tl_tin hz (by decide)).1 (tl_tin hz (by decide)).2 (by rw [hz]; rfl) (by decide) ?_
      exact tl_law_17 l C0 D cy hK hN xq mq u v hsd hAe hP hD hS hl
    rcases n with _ | n
    · refine lv_tableIn (tgt := 1006) hx hb dL_law_33 (tl_tin hz (by decide)).1 (tl_tin hz (by decide)).2 (by rw [hz]; rfl) (by decide) ?_
      exact tl_law_18 l C0 D cy hK hN xq mq u v hsd hAe hP hD hS hl
    rcases n with _ | n
    · refine lv_tableIn (tgt := 1059) hx hb dL_law_33 (tl_tin hz (by decide)).1 (tl_tin hz (by decide)).2 (by rw [hz]; rfl) (by decide) ?_
      exact tl_law_19 l C0 D cy hK hN xq mq u v hsd hAe hP hD hS hl
    rcases n with _ | n
    · refine lv_tableIn (tgt := 1102) hx hb dL_law_33 (tl_tin hz (by decide)).1 (tl_tin hz (by decide)).2 (by rw [hz]; rfl) (by decide) ?_
      exact tl_law_20 l C0 D cy hK hN xq mq u v hsd hAe hP hD hS hl
    rcases n with _ | n
    · refine lv_tableIn (tgt := 1156) hx hb dL_law_33 (tl_tin hz (by decide)).1 (tl_tin hz (by decide)).2 (by rw [hz]; rfl) (by decide) ?_
      exact tl_law_21 l C0 D cy hK hN xq mq u v hsd hAe hP hD hS hl
    rcases n with _ | n
    · refine lv_tableIn (tgt := 1189) hx hb dL_law_33 (tl_tin hz (by decide)).1 (tl_tin hz (by decide)).2 (by rw [hz]; rfl) (by decide) ?_
      exact tl_law_22 l C0 D cy hK hN xq mq u v hsd hAe hP hD hS hl
    rcases n with _ | n
    · refine lv_tableIn (tgt := 1242) hx hb dL_law_33 (tl_tin hz (by decide)).1 (tl_tin hz (by decide)).2 (by rw [hz]; rfl) (by decide) ?_
      exact tl_law_23 l C0 D cy hK hN xq mq u v hsd hAe hP hD hS hl
    rcases n with _ | n
    · refine lv_tableIn (tgt := 1285) hx hb dL_law_33 (tl_tin hz (by decide)).1 (tl_tin hz (by decide)).2 (by rw [hz]; rfl) (by decide) ?_
      exact tl_law_24 l C0 D cy hK hN xq mq u v hsd hAe hP hD hS hl
    rcases n with _ | n
    · refine lv_tableIn (tgt := 1328) hx hb dL_law_33 (tl_tin hz (by decide)).1 (tl_tin hz (by decide)).2 (by rw [hz]; rfl) (by decide) ?_
      exact tl_law_25 l C0 D cy hK hN xq mq u v hsd hAe hP hD hS hl
    rcases n with _ | n
    · refine lv_tableIn (tgt := 1403) hx hb dL_law_33 (tl_tin hz (by decide)).1 (tl_tin hz (by decide)).2 (by rw [hz]; rfl) (by decide) ?_
      exact tl_law_26 l C0 D cy hK hN xq mq u v hsd hAe hP hD hS hl
    rcases n with _ | n
    · refine lv_tableIn (tgt := 1447) hx hb dL_law_33 (tl_tin hz (by decide)).1 (tl_tin hz (by decide)).2 (by rw [hz]; rfl) (by decide) ?_
      exact tl_law_27 l C0 D cy hK hN xq mq u v hsd hAe hP hD hS hl
    rcases n with _ | n
    · refine lv_tableIn (tgt := 1480) hx hb dL_law_33 (tl_tin hz (by decide)).1 (tl_tin hz (by decide)).2 (by rw [hz]; rfl) (by decide) ?_
      exact tl_law_28 l C0 D cy hK hN xq mq u v hsd hAe hP hD hS hl
    rcases n with _ | n
    · refine lv_tableIn (tgt := 1523) hx hb dL_law_33 (tl_tin hz (by decide)).1 (tl_tin hz (by decide)).2 (by rw [hz]; rfl) (by decide) ?_
      exact tl_law_29 l C0 D cy hK hN xq mq u v hsd hAe hP hD hS hl
    rcases n with _ | n
    · refine lv_tableIn (tgt := 1556) hx hb dL_law_33 (tl_tin hz (by decide)).1 (tl_tin hz (by decide)).2 (by rw [hz]; rfl) (by decide) ?_
      exact tl_law_30 l C0 D cy hK hN xq mq u v hsd hAe hP hD hS hl
    rcases n with _ | n
    · refine lv_tableIn (tgt := 1600) hx hb dL_law_33 (tl_tin hz (by decide)).1 (tl_tin hz (by decide)).2 (by rw [hz]; rfl) (by decide) ?_
      exact tl_law_31 l C0 D cy hK hN xq mq u v hsd hAe hP hD hS hl
    rcases n with _ | n
    · refine lv_tableIn (tgt := 1643) hx hb dL_law_33 (tl_tin hz (by decide)).1 (tl_tin hz (by decide)).2 (by rw [hz]; rfl) (by decide) ?_
      exact tl_law_32 l C0 D cy hK hN xq mq u v hsd hAe hP hD hS hl
    rcases n with _ | n
    · refine lv_tableIn (tgt := 1676) hx hb dL_law_33 (tl_tin hz (by decide)).1 (tl_tin hz (by decide)).2 (by rw [hz]; rfl) (by decide) ?_
      exact tl_law_33 l C0 D cy hK hN xq mq u v hsd hAe hP hD hS hl
    rcases n with _ | n
    · refine lv_tableIn (tgt := 1699) hx hb dL_law_33 (tl_tin hz (by decide)).1 (tl_tin hz (by decide)).2 (by rw [hz]; rfl) (by decide) ?_
      exact tl_law_34 l C0 D cy hK hN xq mq u v hsd hAe hP hD hS hl
    rcases n with _ | n
    · refine lv_tableIn (tgt := 1722) hx hb dL_law_33 (tl_tin hz (by decide)).1 (tl_tin hz (by decide)).2 (by rw [hz]; rfl) (by decide) ?_
      exact tl_law_35 l C0 D cy hK hN xq mq u v hsd hAe hP hD hS hl
    rcases n with _ | n
    · refine lv_tableIn (tgt := 1755) hx hb dL_law_33 (tl_tin hz (by decide)).1 (tl_tin hz (by decide)).2 (by rw [hz]; rfl) (by decide) ?_
      exact tl_law_36 l C0 D cy hK hN xq mq u v hsd hAe hP hD hS hl
    rcases n with _ | n
    · refine lv_tableIn (tgt := 1788) hx hb dL_law_33 (tl_tin hz (by decide)).1 (tl_tin hz (by decide)).2 (by rw [hz]; rfl) (by decide) ?_
      exact tl_law_37 l C0 D cy hK hN xq mq u v hsd hAe hP hD hS hl
    rcases n with _ | n
    · refine lv_tableIn (tgt := 1832) hx hb dL_law_33 (tl_tin hz (by decide)).1 (tl_tin hz (by decide)).2 (by rw [hz]; rfl) (by decide) ?_
      exact tl_law_38 l C0 D cy hK hN xq mq u v hsd hAe hP hD hS hl
    rcases n with _ | n
    · refine lv_tableIn (tgt := 1865) hx hb dL_law_33 (tl_tin hz (by decide)).1 (tl_tin hz (by decide)).2 (by rw [hz]; rfl) (by decide) ?_
      exact tl_law_39 l C0 D cy hK hN xq mq u v hsd hAe hP hD hS hl
    rcases n with _ | n
    · refine lv_tableIn (tgt := 1888) hx hb dL_law_33 (tl_tin hz (by decide)).1 (tl_tin hz (by decide)).2 (by rw [hz]; rfl) (by decide) ?_
      exact tl_law_40 l C0 D cy hK hN xq mq u v hsd hAe hP hD hS hl
    rcases n with _ | n
    · refine lv_tableIn (tgt := 1911) hx hb dL_law_33 (tl_tin hz (by decide)).1 (tl_tin hz (by decide)).2 (by rw [hz]; rfl) (by decide) ?_
      exact tl_law_41 l C0 D cy hK hN xq mq u v hsd hAe hP hD hS hl
    rcases n with _ | n
    · refine lv_tableIn (tgt := 1944) hx hb dL_law_33 (tl_tin hz (by decide)).1 (tl_tin hz (by decide)).2 (by rw [hz]; rfl) (by decide) ?_
      exact tl_law_42 l C0 D cy hK hN xq mq u v hsd hAe hP hD hS hl
    rcases n with _ | n
    · refine lv_tableIn (tgt := 1967) hx hb dL_law_33 (tl_tin hz (by decide)).1 (tl_tin hz (by decide)).2 (by rw [hz]; rfl) (by decide) ?_
      exact tl_law_43 l C0 D cy hK hN xq mq u v hsd hAe hP hD hS hl
    rcases n with _ | n
    · refine lv_tableIn (tgt := 1990) hx hb dL_law_33 (tl_tin hz (by decide)).1 (tl_tin hz (by decide)).2 (by rw [hz]; rfl) (by decide) ?_
      exact tl_law_44 l C0 D cy hK hN xq mq u v hsd hAe hP hD hS hl
    · refine lv_tableOut (tgt := 2013) hx hb dL_law_33 (Or.inr (by omega)) (by decide) ?_
      exact tl_end l C0 (hAe ▸ hS) hl (Nat.le_of_ble_eq_true rfl) (Nat.le_of_ble_eq_true rfl)

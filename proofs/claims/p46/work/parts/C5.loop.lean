theorem dL_law_18 : decode cL_law 18 = .ok (.iload_n 3, 1) := lw_f29 (lw_at lw_e0 (j := 18) rfl)
theorem dL_law_19 : decode cL_law 19 = .ok (.aload_n 0, 1) := lw_f42 (lw_at lw_e0 (j := 19) rfl)
theorem dL_law_20 : decode cL_law 20 = .ok (.arraylength, 1) := by decide +kernel
theorem dL_law_21 : decode cL_law 21 = .ok (.bipush 7, 2) := by decide +kernel
theorem dL_law_23 : decode cL_law 23 = .ok (.isub, 1) := by decide +kernel
theorem dL_law_24 : decode cL_law 24 = .ok (.if_icmp .gt 1987, 3) := by decide +kernel
theorem dL_law_27 : decode cL_law 27 = .ok (.aload_n 0, 1) := lw_f42 (lw_at lw_e0 (j := 27) rfl)
theorem dL_law_28 : decode cL_law 28 = .ok (.iload_n 3, 1) := lw_f29 (lw_at lw_e0 (j := 28) rfl)
theorem dL_law_29 : decode cL_law 29 = .ok (.iaload, 1) := lw_f46 (lw_at lw_e0 (j := 29) rfl)
theorem dL_law_30 : decode cL_law 30 = .ok (.bipush 63, 2) := by decide +kernel
theorem dL_law_32 : decode cL_law 32 = .ok (.iand, 1) := by decide +kernel
theorem dL_law_33 : decode cL_law 33 = .ok (.tableswitch 1972 0 44 #[195, 218, 251, 294, 327, 380, 413, 456, 519, 542, 565, 628, 681, 724, 767, 810, 873, 916, 969, 1022, 1065, 1118, 1151, 1204, 1247, 1290, 1365, 1408, 1441, 1484, 1517, 1560, 1603, 1636, 1659, 1682, 1715, 1748, 1791, 1824, 1847, 1870, 1903, 1926, 1949], 195) := by decide +kernel
theorem dL_law_2005 : decode cL_law 2005 = .ok (.iinc 3 7, 3) := by decide +kernel
theorem dL_law_2008 : decode cL_law 2008 = .ok (.goto (-1990), 3) := lw_f167 (lw_at lw_e62 (j := 24) rfl) (lw_at lw_e62 (j := 25) rfl) (lw_at lw_e62 (j := 26) rfl) (by decide)
theorem dL_law_2011 : decode cL_law 2011 = .ok (.iconst 1, 1) := lw_f4 (lw_at lw_e62 (j := 27) rfl)
theorem dL_law_2012 : decode cL_law 2012 = .ok (.ireturn, 1) := by decide +kernel
theorem tl_len7 {N : Nat} {z : Int32} (h : N ≤ 3584) (e : z = Int32.ofNat N - 7) : z.toInt = (N : Int) - 7 := by
  have h1 : (Int32.ofNat N).toInt = (N : Int) := nI_toInt (n := N) (by omega)
  rw [e]
  exact tl_subN (Int32.ofNat N) 7 h1 rfl (by omega) (by omega)
theorem tl_tin {z : Int32} {n : Nat} (hz : z.toInt = (n : Int)) (hn : n ≤ 44) : ¬ z.toInt < 0 ∧ ¬ 44 < z.toInt := by omega
set_option maxHeartbeats 8000000 in
set_option maxRecDepth 100000 in
/-- a call of the script -/
theorem tl_call {p : Program} {e : Env} {s : State} {m : MethodId} {below : List Frame} {meth : Method} {c : Code} (l : Launch) {b N : Nat} {xs : Nat → Int32} (C0 : lw_At p s m meth c b N xs) (D : va_G) (cy : Nat → ClassId) (hK : va_K D vwCl (tl_T cy) s) (hN : tl_ok s) (Z : ts_Y) {A : Nat → Prop} (hAe : A = fun q : Nat => s.heap.size ≤ q) (hZ : ts_Z A Z s s.heap) (xq mq : Nat) (i : Int32) (hi : 0 ≤ i.toInt ∧ i.toInt + 7 ≤ N ∧ N ≤ 3584) {cells slots : Nat} (hcs : cells + 41 ≤ 600000 ∧ slots + 8199 ≤ 7302249) {L : List Nat} {K : Nat → tk_K} {Γ : tk_G} {f : Nat → va_E} {H : Heap} {locs : List Loc} {ls : Array Slot} (S : lq_S D cy A s L K Γ f H locs xq mq) (hl : lv_has ls 4 [(3, .int i), (2, .ref mq), (1, .ref xq), (0, .ref b)]) (kk : ∀ (L : List Nat) (K : Nat → tk_K) (Γ : tk_G) (f : Nat → va_E) (H : Heap) (locs : List Loc) (ls : Array Slot), lq_S D cy A s L K Γ f H locs xq mq → lv_has ls 4 [(3, .int i), (2, .ref mq), (1, .ref xq), (0, .ref b)] → W p l e room_1 s m #[Value.ref b] below meth c H locs (cells + 41) (slots + 8199) (lw_Z below #[Value.ref b] s) (F0 m 2005 ls [])) : W p l e room_1 s m #[Value.ref b] below meth c H locs cells slots (lw_Z below #[Value.ref b] s) (F0 m 27 ls []) := by
  obtain ⟨hx, hb, hr, hml, hown, hts, hX, hbl, hlocks, hgv⟩ := id C0
  have hS := S.2.2.2.2.2.1
  have hbA : ¬ A b := by rw [hAe]; exact Nat.not_le.mpr hbl
  refine lv_aload_n hx hb dL_law_27 rfl (lv_at hl 3 rfl) ?_
  refine lv_iload_n hx hb dL_law_28 rfl (lv_at hl 0 rfl) ?_
  refine va_sld hx hb hX hbl hbA hS (tl_in (by omega) (by omega)) dL_law_29 ?_
  refine lv_bipush (v := 63) hx hb dL_law_30 (by decide) ?_
  refine lv_iand hx hb dL_law_32 ?_
  refine lv_topi (fun z ez => ?_)
  clear ez
  by_cases c9 : z.toInt < 0
  · refine lv_tableOut (tgt := 2005) hx hb dL_law_33 (Or.inl c9) (by decide) ?_
    exact W.widen (k := cells + 41) (n := slots + 8199) (by omega) (by omega) (kk L K Γ f H locs ls S hl)
  obtain ⟨n, hz⟩ : ∃ n : Nat, z.toInt = (n : Int) := ⟨z.toInt.toNat, by omega⟩
  rcases n with _ | n
  · refine lv_tableIn (tgt := 228) hx hb dL_law_33 (tl_tin hz (by decide)).1 (tl_tin hz (by decide)).2 (by rw [hz]; rfl) (by decide) ?_
    exact tl_law_0 l C0 D cy hK hN Z hAe hZ xq mq i hi hcs S hl kk
  rcases n with _ | n
  · refine lv_tableIn (tgt := 251) hx hb dL_law_33 (tl_tin hz (by decide)).1 (tl_tin hz (by decide)).2 (by rw [hz]; rfl) (by decide) ?_
    exact tl_law_1 l C0 D cy hK hN Z hAe hZ xq mq i hi hcs S hl kk
  rcases n with _ | n
  · refine lv_tableIn (tgt := 284) hx hb dL_law_33 (tl_tin hz (by decide)).1 (tl_tin hz (by decide)).2 (by rw [hz]; rfl) (by decide) ?_
    exact tl_law_2 l C0 D cy hK hN Z hAe hZ xq mq i hi hcs S hl kk
  rcases n with _ | n
  · refine lv_tableIn (tgt := 327) hx hb dL_law_33 (tl_tin hz (by decide)).1 (tl_tin hz (by decide)).2 (by rw [hz]; rfl) (by decide) ?_
    exact tl_law_3 l C0 D cy hK hN Z hAe hZ xq mq i hi hcs S hl kk
  rcases n with _ | n
  · refine lv_tableIn (tgt := 360) hx hb dL_law_33 (tl_tin hz (by decide)).1 (tl_tin hz (by decide)).2 (by rw [hz]; rfl) (by decide) ?_
    exact tl_law_4 l C0 D cy hK hN Z hAe hZ xq mq i hi hcs S hl kk
  rcases n with _ | n
  · refine lv_tableIn (tgt := 413) hx hb dL_law_33 (tl_tin hz (by decide)).1 (tl_tin hz (by decide)).2 (by rw [hz]; rfl) (by decide) ?_
    exact tl_law_5 l C0 D cy hK hN Z hAe hZ xq mq i hi hcs S hl kk
  rcases n with _ | n
  · refine lv_tableIn (tgt := 446) hx hb dL_law_33 (tl_tin hz (by decide)).1 (tl_tin hz (by decide)).2 (by rw [hz]; rfl) (by decide) ?_
    exact tl_law_6 l C0 D cy hK hN Z hAe hZ xq mq i hi hcs S hl kk
  rcases n with _ | n
  · refine lv_tableIn (tgt := 489) hx hb dL_law_33 (tl_tin hz (by decide)).1 (tl_tin hz (by decide)).2 (by rw [hz]; rfl) (by decide) ?_
    exact tl_law_7 l C0 D cy hK hN Z hAe hZ xq mq i hi hcs S hl kk
  rcases n with _ | n
  · refine lv_tableIn (tgt := 552) hx hb dL_law_33 (tl_tin hz (by decide)).1 (tl_tin hz (by decide)).2 (by rw [hz]; rfl) (by decide) ?_
    exact tl_law_8 l C0 D cy hK hN Z hAe hZ xq mq i hi hcs S hl kk
  rcases n with _ | n
  · refine lv_tableIn (tgt := 575) hx hb dL_law_33 (tl_tin hz (by decide)).1 (tl_tin hz (by decide)).2 (by rw [hz]; rfl) (by decide) ?_
    exact tl_law_9 l C0 D cy hK hN Z hAe hZ xq mq i hi hcs S hl kk
  rcases n with _ | n
  · refine lv_tableIn (tgt := 598) hx hb dL_law_33 (tl_tin hz (by decide)).1 (tl_tin hz (by decide)).2 (by rw [hz]; rfl) (by decide) ?_
    exact tl_law_10 l C0 D cy hK hN Z hAe hZ xq mq i hi hcs S hl kk
  rcases n with _ | n
  · refine lv_tableIn (tgt := 661) hx hb dL_law_33 (tl_tin hz (by decide)).1 (tl_tin hz (by decide)).2 (by rw [hz]; rfl) (by decide) ?_
    exact tl_law_11 l C0 D cy hK hN Z hAe hZ xq mq i hi hcs S hl kk
  rcases n with _ | n
  · refine lv_tableIn (tgt := 714) hx hb dL_law_33 (tl_tin hz (by decide)).1 (tl_tin hz (by decide)).2 (by rw [hz]; rfl) (by decide) ?_
    exact tl_law_12 l C0 D cy hK hN Z hAe hZ xq mq i hi hcs S hl kk
  rcases n with _ | n
  · refine lv_tableIn (tgt := 757) hx hb dL_law_33 (tl_tin hz (by decide)).1 (tl_tin hz (by decide)).2 (by rw [hz]; rfl) (by decide) ?_
    exact tl_law_13 l C0 D cy hK hN Z hAe hZ xq mq i hi hcs S hl kk
  rcases n with _ | n
  · refine lv_tableIn (tgt := 800) hx hb dL_law_33 (tl_tin hz (by decide)).1 (tl_tin hz (by decide)).2 (by rw [hz]; rfl) (by decide) ?_
    exact tl_law_14 l C0 D cy hK hN Z hAe hZ xq mq i hi hcs S hl kk
  rcases n with _ | n
  · refine lv_tableIn (tgt := 843) hx hb dL_law_33 (tl_tin hz (by decide)).1 (tl_tin hz (by decide)).2 (by rw [hz]; rfl) (by decide) ?_
    exact tl_law_15 l C0 D cy hK hN Z hAe hZ xq mq i hi hcs S hl kk
  rcases n with _ | n
  · refine lv_tableIn (tgt := 906) hx hb dL_law_33 (tl_tin hz (by decide)).1 (tl_tin hz (by decide)).2 (by rw [hz]; rfl) (by decide) ?_
    exact tl_law_16 l C0 D cy hK hN Z hAe hZ xq mq i hi hcs S hl kk
  rcases n with _ | n
  · refine lv_tableIn (tgt := 949) hx hb dL_law_33 (tl_tin hz (by decide)).1 (tl_tin hz (by decide)).2 (by rw [hz]; rfl) (by decide) ?_
    exact tl_law_17 l C0 D cy hK hN Z hAe hZ xq mq i hi hcs S hl kk
  rcases n with _ | n
  · refine lv_tableIn (tgt := 1002) hx hb dL_law_33 (tl_tin hz (by decide)).1 (tl_tin hz (by decide)).2 (by rw [hz]; rfl) (by decide) ?_
    exact tl_law_18 l C0 D cy hK hN Z hAe hZ xq mq i hi hcs S hl kk
  rcases n with _ | n
  · refine lv_tableIn (tgt := 1055) hx hb dL_law_33 (tl_tin hz (by decide)).1 (tl_tin hz (by decide)).2 (by rw [hz]; rfl) (by decide) ?_
    exact tl_law_19 l C0 D cy hK hN Z hAe hZ xq mq i hi hcs S hl kk
  rcases n with _ | n
  · refine lv_tableIn (tgt := 1098) hx hb dL_law_33 (tl_tin hz (by decide)).1 (tl_tin hz (by decide)).2 (by rw [hz]; rfl) (by decide) ?_
    exact tl_law_20 l C0 D cy hK hN Z hAe hZ xq mq i hi hcs S hl kk
  rcases n with _ | n
  · refine lv_tableIn (tgt := 1151) hx hb dL_law_33 (tl_tin hz (by decide)).1 (tl_tin hz (by decide)).2 (by rw [hz]; rfl) (by decide) ?_
    exact tl_law_21 l C0 D cy hK hN Z hAe hZ xq mq i hi hcs S hl kk
  rcases n with _ | n
  · refine lv_tableIn (tgt := 1184) hx hb dL_law_33 (tl_tin hz (by decide)).1 (tl_tin hz (by decide)).2 (by rw [hz]; rfl) (by decide) ?_
    exact tl_law_22 l C0 D cy hK hN Z hAe hZ xq mq i hi hcs S hl kk
  rcases n with _ | n
  · refine lv_tableIn (tgt := 1237) hx hb dL_law_33 (tl_tin hz (by decide)).1 (tl_tin hz (by decide)).2 (by rw [hz]; rfl) (by decide) ?_
    exact tl_law_23 l C0 D cy hK hN Z hAe hZ xq mq i hi hcs S hl kk
  rcases n with _ | n
  · refine lv_tableIn (tgt := 1280) hx hb dL_law_33 (tl_tin hz (by decide)).1 (tl_tin hz (by decide)).2 (by rw [hz]; rfl) (by decide) ?_
    exact tl_law_24 l C0 D cy hK hN Z hAe hZ xq mq i hi hcs S hl kk
  rcases n with _ | n
  · refine lv_tableIn (tgt := 1323) hx hb dL_law_33 (tl_tin hz (by decide)).1 (tl_tin hz (by decide)).2 (by rw [hz]; rfl) (by decide) ?_
    exact tl_law_25 l C0 D cy hK hN Z hAe hZ xq mq i hi hcs S hl kk
  rcases n with _ | n
  · refine lv_tableIn (tgt := 1398) hx hb dL_law_33 (tl_tin hz (by decide)).1 (tl_tin hz (by decide)).2 (by rw [hz]; rfl) (by decide) ?_
    exact tl_law_26 l C0 D cy hK hN Z hAe hZ xq mq i hi hcs S hl kk
  rcases n with _ | n
  · refine lv_tableIn (tgt := 1441) hx hb dL_law_33 (tl_tin hz (by decide)).1 (tl_tin hz (by decide)).2 (by rw [hz]; rfl) (by decide) ?_
    exact tl_law_27 l C0 D cy hK hN Z hAe hZ xq mq i hi hcs S hl kk
  rcases n with _ | n
  · refine lv_tableIn (tgt := 1474) hx hb dL_law_33 (tl_tin hz (by decide)).1 (tl_tin hz (by decide)).2 (by rw [hz]; rfl) (by decide) ?_
    exact tl_law_28 l C0 D cy hK hN Z hAe hZ xq mq i hi hcs S hl kk
  rcases n with _ | n
  · refine lv_tableIn (tgt := 1517) hx hb dL_law_33 (tl_tin hz (by decide)).1 (tl_tin hz (by decide)).2 (by rw [hz]; rfl) (by decide) ?_
    exact tl_law_29 l C0 D cy hK hN Z hAe hZ xq mq i hi hcs S hl kk
  rcases n with _ | n
  · refine lv_tableIn (tgt := 1550) hx hb dL_law_33 (tl_tin hz (by decide)).1 (tl_tin hz (by decide)).2 (by rw [hz]; rfl) (by decide) ?_
    exact tl_law_30 l C0 D cy hK hN Z hAe hZ xq mq i hi hcs S hl kk
  rcases n with _ | n
  · refine lv_tableIn (tgt := 1593) hx hb dL_law_33 (tl_tin hz (by decide)).1 (tl_tin hz (by decide)).2 (by rw [hz]; rfl) (by decide) ?_
    exact tl_law_31 l C0 D cy hK hN Z hAe hZ xq mq i hi hcs S hl kk
  rcases n with _ | n
  · refine lv_tableIn (tgt := 1636) hx hb dL_law_33 (tl_tin hz (by decide)).1 (tl_tin hz (by decide)).2 (by rw [hz]; rfl) (by decide) ?_
    exact tl_law_32 l C0 D cy hK hN Z hAe hZ xq mq i hi hcs S hl kk
  rcases n with _ | n
  · refine lv_tableIn (tgt := 1669) hx hb dL_law_33 (tl_tin hz (by decide)).1 (tl_tin hz (by decide)).2 (by rw [hz]; rfl) (by decide) ?_
    exact tl_law_33 l C0 D cy hK hN Z hAe hZ xq mq i hi hcs S hl kk
  rcases n with _ | n
  · refine lv_tableIn (tgt := 1692) hx hb dL_law_33 (tl_tin hz (by decide)).1 (tl_tin hz (by decide)).2 (by rw [hz]; rfl) (by decide) ?_
    exact tl_law_34 l C0 D cy hK hN Z hAe hZ xq mq i hi hcs S hl kk
  rcases n with _ | n
  · refine lv_tableIn (tgt := 1715) hx hb dL_law_33 (tl_tin hz (by decide)).1 (tl_tin hz (by decide)).2 (by rw [hz]; rfl) (by decide) ?_
    exact tl_law_35 l C0 D cy hK hN Z hAe hZ xq mq i hi hcs S hl kk
  rcases n with _ | n
  · refine lv_tableIn (tgt := 1748) hx hb dL_law_33 (tl_tin hz (by decide)).1 (tl_tin hz (by decide)).2 (by rw [hz]; rfl) (by decide) ?_
    exact tl_law_36 l C0 D cy hK hN Z hAe hZ xq mq i hi hcs S hl kk
  rcases n with _ | n
  · refine lv_tableIn (tgt := 1781) hx hb dL_law_33 (tl_tin hz (by decide)).1 (tl_tin hz (by decide)).2 (by rw [hz]; rfl) (by decide) ?_
    exact tl_law_37 l C0 D cy hK hN Z hAe hZ xq mq i hi hcs S hl kk
  rcases n with _ | n
  · refine lv_tableIn (tgt := 1824) hx hb dL_law_33 (tl_tin hz (by decide)).1 (tl_tin hz (by decide)).2 (by rw [hz]; rfl) (by decide) ?_
    exact tl_law_38 l C0 D cy hK hN Z hAe hZ xq mq i hi hcs S hl kk
  rcases n with _ | n
  · refine lv_tableIn (tgt := 1857) hx hb dL_law_33 (tl_tin hz (by decide)).1 (tl_tin hz (by decide)).2 (by rw [hz]; rfl) (by decide) ?_
    exact tl_law_39 l C0 D cy hK hN Z hAe hZ xq mq i hi hcs S hl kk
  rcases n with _ | n
  · refine lv_tableIn (tgt := 1880) hx hb dL_law_33 (tl_tin hz (by decide)).1 (tl_tin hz (by decide)).2 (by rw [hz]; rfl) (by decide) ?_
    exact tl_law_40 l C0 D cy hK hN Z hAe hZ xq mq i hi hcs S hl kk
  rcases n with _ | n
  · refine lv_tableIn (tgt := 1903) hx hb dL_law_33 (tl_tin hz (by decide)).1 (tl_tin hz (by decide)).2 (by rw [hz]; rfl) (by decide) ?_
    exact tl_law_41 l C0 D cy hK hN Z hAe hZ xq mq i hi hcs S hl kk
  rcases n with _ | n
  · refine lv_tableIn (tgt := 1936) hx hb dL_law_33 (tl_tin hz (by decide)).1 (tl_tin hz (by decide)).2 (by rw [hz]; rfl) (by decide) ?_
    exact tl_law_42 l C0 D cy hK hN Z hAe hZ xq mq i hi hcs S hl kk
  rcases n with _ | n
  · refine lv_tableIn (tgt := 1959) hx hb dL_law_33 (tl_tin hz (by decide)).1 (tl_tin hz (by decide)).2 (by rw [hz]; rfl) (by decide) ?_
    exact tl_law_43 l C0 D cy hK hN Z hAe hZ xq mq i hi hcs S hl kk
  rcases n with _ | n
  · refine lv_tableIn (tgt := 1982) hx hb dL_law_33 (tl_tin hz (by decide)).1 (tl_tin hz (by decide)).2 (by rw [hz]; rfl) (by decide) ?_
    exact tl_law_44 l C0 D cy hK hN Z hAe hZ xq mq i hi hcs S hl kk
  · refine lv_tableOut (tgt := 2005) hx hb dL_law_33 (Or.inr (by omega)) (by decide) ?_
    exact W.widen (k := cells + 41) (n := slots + 8199) (by omega) (by omega) (kk L K Γ f H locs ls S hl)
set_option maxHeartbeats 4000000 in
set_option maxRecDepth 100000 in
/-- the script, call by call -/
theorem tl_loop {p : Program} {e : Env} {s : State} {m : MethodId} {below : List Frame} {meth : Method} {c : Code} (l : Launch) {b N : Nat} {xs : Nat → Int32} (C0 : lw_At p s m meth c b N xs) (D : va_G) (cy : Nat → ClassId) (hK : va_K D vwCl (tl_T cy) s) (hN : tl_ok s) (Z : ts_Y) {A : Nat → Prop} (hAe : A = fun q : Nat => s.heap.size ≤ q) (hZ : ts_Z A Z s s.heap) (xq mq : Nat) : ∀ (n : Nat) (i : Int32) (cells slots : Nat) (L : List Nat) (K : Nat → tk_K) (Γ : tk_G) (f : Nat → va_E) (H : Heap) (locs : List Loc) (ls : Array Slot), (0 ≤ i.toInt ∧ i.toInt ≤ 3600 ∧ (N : Int) ≤ i.toInt + 7 * n + 6 ∧ N ≤ 3584) → (cells + 41 * n ≤ 600000 ∧ slots + 8199 * n ≤ 7302249) → lq_S D cy A s L K Γ f H locs xq mq → lv_has ls 4 [(3, .int i), (2, .ref mq), (1, .ref xq), (0, .ref b)] → W p l e room_1 s m #[Value.ref b] below meth c H locs cells slots (lw_Z below #[Value.ref b] s) (F0 m 18 ls []) := by
  intro n
  induction n with
  | zero =>
    intro i cells slots L K Γ f H locs ls hi hcs S hl
    obtain ⟨hx, hb, hr, hml, hown, hts, hX, hbl, hlocks, hgv⟩ := id C0
    have hS := S.2.2.2.2.2.1
    have hbA : ¬ A b := by rw [hAe]; exact Nat.not_le.mpr hbl
    refine lv_iload_n hx hb dL_law_18 rfl (lv_at hl 0 rfl) ?_
    refine lv_aload_n hx hb dL_law_19 rfl (lv_at hl 3 rfl) ?_
    refine va_slen hx hb hX hbl hbA hS dL_law_20 ?_
    refine lv_bipush (v := 7) hx hb dL_law_21 (by decide) ?_
    refine lv_isub hx hb dL_law_23 ?_
    refine lv_topi (fun z ez => ?_)
    have iz := tl_len7 hi.2.2.2 ez
    refine lv_icmp_gt (tgt := 2011) hx hb dL_law_24 (by decide) (fun _ => ?_) (fun c9 => absurd (tl_nlt c9) (by omega))
    refine lv_iconst (v := 1) hx hb dL_law_2011 (by decide) ?_
    subst hAe
    refine va_forget (fun q hq => hS.2.2 q hq) ?_
    refine W.widen (k := 600000) (n := 7302249) (by omega) (by omega) ?_
    exact lw_ret hx hb hr hlocks dL_law_2012
  | succ n ih =>
    intro i cells slots L K Γ f H locs ls hi hcs S hl
    obtain ⟨hx, hb, hr, hml, hown, hts, hX, hbl, hlocks, hgv⟩ := id C0
    have hS := S.2.2.2.2.2.1
    have hbA : ¬ A b := by rw [hAe]; exact Nat.not_le.mpr hbl
    refine lv_iload_n hx hb dL_law_18 rfl (lv_at hl 0 rfl) ?_
    refine lv_aload_n hx hb dL_law_19 rfl (lv_at hl 3 rfl) ?_
    refine va_slen hx hb hX hbl hbA hS dL_law_20 ?_
    refine lv_bipush (v := 7) hx hb dL_law_21 (by decide) ?_
    refine lv_isub hx hb dL_law_23 ?_
    refine lv_topi (fun z ez => ?_)
    have iz := tl_len7 hi.2.2.2 ez
    refine lv_icmp_gt (tgt := 2011) hx hb dL_law_24 (by decide) (fun _ => ?_) (fun c9 => ?_)
    · refine lv_iconst (v := 1) hx hb dL_law_2011 (by decide) ?_
      subst hAe
      refine va_forget (fun q hq => hS.2.2 q hq) ?_
      refine W.widen (k := 600000) (n := 7302249) (by omega) (by omega) ?_
      exact lw_ret hx hb hr hlocks dL_law_2012
    · have c9 := tl_nlt c9
      refine tl_call l C0 D cy hK hN Z hAe hZ xq mq i ⟨by omega, by omega, by omega⟩ (cells := cells) (slots := slots) ⟨by omega, by omega⟩ S hl (fun L K Γ f H locs ls S hl => ?_)
      obtain ⟨z7, ez7⟩ : ∃ y : Int32, y = i + 7 := ⟨_, rfl⟩
      refine lv_iinc (v := z7) (lv' := [(3, .int z7), (2, .ref mq), (1, .ref xq), (0, .ref b)]) hx hb dL_law_2005 hl (k := 0) rfl (by rw [ez7]; rfl) (by decide) rfl (fun ls hl => ?_)
      have iz7 : z7.toInt = i.toInt + 7 := by rw [ez7]; exact tl_addL i 7 (by decide) (by omega) (by omega)
      refine lv_goto (tgt := 18) hx hb dL_law_2008 (by decide) ?_
      exact ih z7 (cells + 41) (slots + 8199) L K Γ f H locs ls ⟨by omega, by omega, by omega, by omega⟩ ⟨by omega, by omega⟩ S hl

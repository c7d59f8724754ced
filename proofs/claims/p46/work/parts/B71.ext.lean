theorem dX8_keep_0 : decode cX8_keep 0 = .ok (.aload_n 0, 1) := by decide +kernel
theorem dX8_keep_1 : decode cX8_keep 1 = .ok (.invokevirtual 27, 3) := by decide +kernel
theorem dX8_keep_4 : decode cX8_keep 4 = .ok (.ifCond .eq 5, 3) := by decide +kernel
theorem dX8_keep_7 : decode cX8_keep 7 = .ok (.iconst (-1), 1) := by decide +kernel
theorem dX8_keep_8 : decode cX8_keep 8 = .ok (.ireturn, 1) := by decide +kernel
theorem dX8_keep_9 : decode cX8_keep 9 = .ok (.aload_n 0, 1) := by decide +kernel
theorem dX8_keep_10 : decode cX8_keep 10 = .ok (.getfield 17, 3) := by decide +kernel
theorem dX8_keep_13 : decode cX8_keep 13 = .ok (.aload_n 0, 1) := by decide +kernel
theorem dX8_keep_14 : decode cX8_keep 14 = .ok (.getfield 23, 3) := by decide +kernel
theorem dX8_keep_17 : decode cX8_keep 17 = .ok (.aload_n 1, 1) := by decide +kernel
theorem dX8_keep_18 : decode cX8_keep 18 = .ok (.aastore, 1) := by decide +kernel
theorem dX8_keep_19 : decode cX8_keep 19 = .ok (.aload_n 0, 1) := by decide +kernel
theorem dX8_keep_20 : decode cX8_keep 20 = .ok (.dup, 1) := by decide +kernel
theorem dX8_keep_21 : decode cX8_keep 21 = .ok (.getfield 23, 3) := by decide +kernel
theorem dX8_keep_24 : decode cX8_keep 24 = .ok (.iconst 1, 1) := by decide +kernel
theorem dX8_keep_25 : decode cX8_keep 25 = .ok (.iadd, 1) := by decide +kernel
theorem dX8_keep_26 : decode cX8_keep 26 = .ok (.putfield 23, 3) := by decide +kernel
theorem dX8_keep_29 : decode cX8_keep 29 = .ok (.aload_n 0, 1) := by decide +kernel
theorem dX8_keep_30 : decode cX8_keep 30 = .ok (.getfield 23, 3) := by decide +kernel
theorem dX8_keep_33 : decode cX8_keep 33 = .ok (.iconst 1, 1) := by decide +kernel
theorem dX8_keep_34 : decode cX8_keep 34 = .ok (.isub, 1) := by decide +kernel
theorem dX8_keep_35 : decode cX8_keep 35 = .ok (.ireturn, 1) := by decide +kernel
theorem wk_368 : Cond.instanceMethod yX8_isFull ∈ tl_L := List.mem_filter.mpr ⟨lw_m3 (i := 65) rfl, rfl⟩
theorem wk_369 : Cond.selects RX8 yX8_isFull yX8_isFull ∈ tl_L := List.mem_filter.mpr ⟨lw_s1 (i := 11) (q := (yX8_isFull, 2)) rfl, rfl⟩
theorem wk_370 : Cond.code yX8_isFull cX8_isFull 1 (some .boolean) ∈ tl_L := List.mem_filter.mpr ⟨lw_m3 (i := 66) rfl, rfl⟩
theorem wk_531 : Cond.methodLink RX8 27 yX8_isFull ∈ tl_L := List.mem_filter.mpr ⟨lw_m4 (i := 9) rfl, rfl⟩
theorem lk_X8_27 : tl_kV RX8 27 RX8 yX8_isFull cX8_isFull 1 (some .boolean) 0 := ⟨wk_370, wk_531, wk_368, wk_369, wk_19, ⟨by decide +kernel, by decide +kernel, by decide +kernel⟩⟩
theorem dX11_shelfOf_0 : decode cX11_shelfOf 0 = .ok (.iload_n 1, 1) := by decide +kernel
theorem dX11_shelfOf_1 : decode cX11_shelfOf 1 = .ok (.tableswitch 42 0 2 #[27, 32, 37], 27) := by decide +kernel
theorem dX11_shelfOf_28 : decode cX11_shelfOf 28 = .ok (.aload_n 0, 1) := by decide +kernel
theorem dX11_shelfOf_29 : decode cX11_shelfOf 29 = .ok (.getfield 25, 3) := by decide +kernel
theorem dX11_shelfOf_32 : decode cX11_shelfOf 32 = .ok (.areturn, 1) := by decide +kernel
theorem dX11_shelfOf_33 : decode cX11_shelfOf 33 = .ok (.aload_n 0, 1) := by decide +kernel
theorem dX11_shelfOf_34 : decode cX11_shelfOf 34 = .ok (.getfield 29, 3) := by decide +kernel
theorem dX11_shelfOf_37 : decode cX11_shelfOf 37 = .ok (.areturn, 1) := by decide +kernel
theorem dX11_shelfOf_38 : decode cX11_shelfOf 38 = .ok (.aload_n 0, 1) := by decide +kernel
theorem dX11_shelfOf_39 : decode cX11_shelfOf 39 = .ok (.getfield 32, 3) := by decide +kernel
theorem dX11_shelfOf_42 : decode cX11_shelfOf 42 = .ok (.areturn, 1) := by decide +kernel
theorem dX11_shelfOf_43 : decode cX11_shelfOf 43 = .ok (.aconst_null, 1) := by decide +kernel
theorem dX11_shelfOf_44 : decode cX11_shelfOf 44 = .ok (.areturn, 1) := by decide +kernel
theorem dX11_text_0 : decode cX11_text 0 = .ok (.aload_n 0, 1) := by decide +kernel
theorem dX11_text_1 : decode cX11_text 1 = .ok (.iload_n 1, 1) := by decide +kernel
theorem dX11_text_2 : decode cX11_text 2 = .ok (.invokevirtual 182, 3) := by decide +kernel
theorem dX11_text_5 : decode cX11_text 5 = .ok (.astore_n 2, 1) := by decide +kernel
theorem dX11_text_6 : decode cX11_text 6 = .ok (.aload_n 2, 1) := by decide +kernel
theorem dX11_text_7 : decode cX11_text 7 = .ok (.ifnull 10, 3) := by decide +kernel
theorem dX11_text_10 : decode cX11_text 10 = .ok (.aload_n 2, 1) := by decide +kernel
theorem dX11_text_11 : decode cX11_text 11 = .ok (.invokevirtual 186, 3) := by decide +kernel
theorem dX11_text_14 : decode cX11_text 14 = .ok (.ifCond .eq 5, 3) := by decide +kernel
theorem dX11_text_17 : decode cX11_text 17 = .ok (.iconst (-1), 1) := by decide +kernel
theorem dX11_text_18 : decode cX11_text 18 = .ok (.ireturn, 1) := by decide +kernel
theorem dX11_text_19 : decode cX11_text 19 = .ok (.aload_n 0, 1) := by decide +kernel
theorem dX11_text_20 : decode cX11_text 20 = .ok (.getfield 45, 3) := by decide +kernel
theorem dX11_text_23 : decode cX11_text 23 = .ok (.invokevirtual 190, 3) := by decide +kernel
theorem dX11_text_26 : decode cX11_text 26 = .ok (.aload_n 0, 1) := by decide +kernel
theorem dX11_text_27 : decode cX11_text 27 = .ok (.getfield 38, 3) := by decide +kernel
theorem dX11_text_30 : decode cX11_text 30 = .ok (.aload_n 0, 1) := by decide +kernel
theorem dX11_text_31 : decode cX11_text 31 = .ok (.getfield 10, 3) := by decide +kernel
theorem dX11_text_34 : decode cX11_text 34 = .ok (.iload_n 1, 1) := by decide +kernel
theorem dX11_text_35 : decode cX11_text 35 = .ok (.aload_n 0, 1) := by decide +kernel
theorem dX11_text_36 : decode cX11_text 36 = .ok (.getfield 45, 3) := by decide +kernel
theorem dX11_text_39 : decode cX11_text 39 = .ok (.invokevirtual 193, 3) := by decide +kernel
theorem dX11_text_42 : decode cX11_text 42 = .ok (.istore_n 3, 1) := by decide +kernel
theorem dX11_text_43 : decode cX11_text 43 = .ok (.aload_n 0, 1) := by decide +kernel
theorem dX11_text_44 : decode cX11_text 44 = .ok (.getfield 10, 3) := by decide +kernel
theorem dX11_text_47 : decode cX11_text 47 = .ok (.iconst 0, 1) := by decide +kernel
theorem dX11_text_48 : decode cX11_text 48 = .ok (.putfield 176, 3) := by decide +kernel
theorem dX11_text_51 : decode cX11_text 51 = .ok (.iload_n 3, 1) := by decide +kernel
theorem dX11_text_52 : decode cX11_text 52 = .ok (.ifCond .eq 8, 3) := by decide +kernel
theorem dX11_text_55 : decode cX11_text 55 = .ok (.bipush (-2), 2) := by decide +kernel
theorem dX11_text_57 : decode cX11_text 57 = .ok (.iload_n 3, 1) := by decide +kernel
theorem dX11_text_58 : decode cX11_text 58 = .ok (.isub, 1) := by decide +kernel
theorem dX11_text_59 : decode cX11_text 59 = .ok (.ireturn, 1) := by decide +kernel
theorem dX11_text_60 : decode cX11_text 60 = .ok (.aload_n 2, 1) := by decide +kernel
theorem dX11_text_61 : decode cX11_text 61 = .ok (.aload_n 0, 1) := by decide +kernel
theorem dX11_text_62 : decode cX11_text 62 = .ok (.getfield 45, 3) := by decide +kernel
theorem dX11_text_65 : decode cX11_text 65 = .ok (.invokevirtual 197, 3) := by decide +kernel
theorem dX11_text_68 : decode cX11_text 68 = .ok (.istore 4, 2) := by decide +kernel
theorem dX11_text_70 : decode cX11_text 70 = .ok (.aload_n 0, 1) := by decide +kernel
theorem dX11_text_71 : decode cX11_text 71 = .ok (.new 42, 3) := by decide +kernel
theorem dX11_text_74 : decode cX11_text 74 = .ok (.dup, 1) := by decide +kernel
theorem dX11_text_75 : decode cX11_text 75 = .ok (.invokespecial 44, 3) := by decide +kernel
theorem dX11_text_78 : decode cX11_text 78 = .ok (.putfield 45, 3) := by decide +kernel
theorem dX11_text_81 : decode cX11_text 81 = .ok (.iload 4, 2) := by decide +kernel
theorem dX11_text_83 : decode cX11_text 83 = .ok (.ireturn, 1) := by decide +kernel
theorem wk_364 : Cond.methodLink RX11 182 yX11_shelfOf ∈ tl_L := List.mem_filter.mpr ⟨lw_m3 (i := 59) rfl, rfl⟩
theorem wk_365 : Cond.instanceMethod yX11_shelfOf ∈ tl_L := List.mem_filter.mpr ⟨lw_m3 (i := 61) rfl, rfl⟩
theorem wk_366 : Cond.selects RX11 yX11_shelfOf yX11_shelfOf ∈ tl_L := List.mem_filter.mpr ⟨lw_s1 (i := 10) (q := (yX11_shelfOf, 16)) rfl, rfl⟩
theorem wk_367 : Cond.code yX11_shelfOf cX11_shelfOf 2 (some (.object "ThinLine$Texts")) ∈ tl_L := List.mem_filter.mpr ⟨lw_m3 (i := 62) rfl, rfl⟩
theorem wk_372 : Cond.instanceMethod yX7_wipe ∈ tl_L := List.mem_filter.mpr ⟨lw_m3 (i := 69) rfl, rfl⟩
theorem wk_373 : Cond.selects RX7 yX7_wipe yX7_wipe ∈ tl_L := List.mem_filter.mpr ⟨lw_s1 (i := 12) (q := (yX7_wipe, 9)) rfl, rfl⟩
theorem wk_374 : Cond.code yX7_wipe cX7_wipe 1 none ∈ tl_L := List.mem_filter.mpr ⟨lw_m3 (i := 70) rfl, rfl⟩
theorem wk_377 : Cond.instanceMethod yX2_parse ∈ tl_L := List.mem_filter.mpr ⟨lw_m3 (i := 73) rfl, rfl⟩
theorem wk_378 : Cond.selects RX2 yX2_parse yX2_parse ∈ tl_L := List.mem_filter.mpr ⟨lw_s1 (i := 13) (q := (yX2_parse, 6)) rfl, rfl⟩
theorem wk_379 : Cond.code yX2_parse cX2_parse 5 (some .int) ∈ tl_L := List.mem_filter.mpr ⟨lw_m3 (i := 74) rfl, rfl⟩
theorem wk_528 : Cond.instanceMethod yX8_keep ∈ tl_L := List.mem_filter.mpr ⟨lw_m4 (i := 7) rfl, rfl⟩
theorem wk_529 : Cond.selects RX8 yX8_keep yX8_keep ∈ tl_L := List.mem_filter.mpr ⟨lw_s3 (i := 2) (q := (yX8_keep, 2)) rfl, rfl⟩
theorem wk_530 : Cond.code yX8_keep cX8_keep 2 (some .int) ∈ tl_L := List.mem_filter.mpr ⟨lw_m4 (i := 8) rfl, rfl⟩
theorem lk_X11_182 : tl_kV RX11 182 RX11 yX11_shelfOf cX11_shelfOf 2 (some (.object "ThinLine$Texts")) 1 := ⟨wk_367, wk_364, wk_365, wk_366, wk_2, ⟨by decide +kernel, by decide +kernel, by decide +kernel⟩⟩
theorem lk_X11_186 : tl_kVN RX11 186 RX8 yX8_isFull "ThinLine" cX8_isFull 1 (some .boolean) 0 84 := ⟨wk_370, by decide +kernel, wk_368, wk_369, wk_19, ⟨by decide +kernel, by decide +kernel, by decide +kernel⟩⟩
theorem lk_X11_190 : tl_kVN RX11 190 RX7 yX7_wipe "ThinLine" cX7_wipe 1 none 0 85 := ⟨wk_374, by decide +kernel, wk_372, wk_373, wk_29, ⟨by decide +kernel, by decide +kernel, by decide +kernel⟩⟩
theorem lk_X11_193 : tl_kVN RX11 193 RX2 yX2_parse "ThinLine" cX2_parse 5 (some .int) 3 86 := ⟨wk_379, by decide +kernel, wk_377, wk_378, wk_25, ⟨by decide +kernel, by decide +kernel, by decide +kernel⟩⟩
theorem lk_X11_197 : tl_kVN RX11 197 RX8 yX8_keep "ThinLine" cX8_keep 2 (some .int) 1 92 := ⟨wk_530, by decide +kernel, wk_528, wk_529, wk_19, ⟨by decide +kernel, by decide +kernel, by decide +kernel⟩⟩
theorem tp_o_X_mono {L L2 : List Nat} {K K2 : Nat → tk_K} (hm : ∀ k n w a, tp_r L K k n w a → tp_r L2 K2 k n w a) {n w : Nat} {γ : Nat → Int} {e : va_E} (h : tp_o_X L K n w γ e) : tp_o_X L2 K2 n w γ e := by
  obtain ⟨x0, x1, x2, x3, x4, x5, x6, x7, x8, x9, x10, x11, x12, x13, x14, x15, he, g0, g1, g2, g3, g4, g5, g6, g7, g8, g9, g10, g11, g12, g13, g14, g15⟩ := h
  exact ⟨x0, x1, x2, x3, x4, x5, x6, x7, x8, x9, x10, x11, x12, x13, x14, x15, he, hm _ _ _ _ g0, hm _ _ _ _ g1, hm _ _ _ _ g2, hm _ _ _ _ g3, hm _ _ _ _ g4, hm _ _ _ _ g5, hm _ _ _ _ g6, hm _ _ _ _ g7, hm _ _ _ _ g8, hm _ _ _ _ g9, hm _ _ _ _ g10, hm _ _ _ _ g11, hm _ _ _ _ g12, hm _ _ _ _ g13, hm _ _ _ _ g14, hm _ _ _ _ g15⟩
theorem tp_o_BOOK_mono {L L2 : List Nat} {K K2 : Nat → tk_K} (hm : ∀ k n w a, tp_r L K k n w a → tp_r L2 K2 k n w a) {n w : Nat} {γ : Nat → Int} {e : va_E} (h : tp_o_BOOK L K n w γ e) : tp_o_BOOK L2 K2 n w γ e := by
  obtain ⟨x0, x1, x2, x3, x4, x5, x6, x7, x8, he, g0, g1, g2, g3, g4, g5, g6, g7, g8⟩ := h
  exact ⟨x0, x1, x2, x3, x4, x5, x6, x7, x8, he, g0, hm _ _ _ _ g1, hm _ _ _ _ g2, hm _ _ _ _ g3, hm _ _ _ _ g4, hm _ _ _ _ g5, hm _ _ _ _ g6, hm _ _ _ _ g7, g8⟩
theorem tp_o_ROWS_mono {L L2 : List Nat} {K K2 : Nat → tk_K} (hm : ∀ k n w a, tp_r L K k n w a → tp_r L2 K2 k n w a) {n w : Nat} {γ : Nat → Int} {e : va_E} (h : tp_o_ROWS L K n w γ e) : tp_o_ROWS L2 K2 n w γ e := by
  obtain ⟨x0, x1, x2, x3, x4, x5, he, g0, g2, g3, g4, g5⟩ := h
  exact ⟨x0, x1, x2, x3, x4, x5, he, g0, hm _ _ _ _ g2, hm _ _ _ _ g3, hm _ _ _ _ g4, hm _ _ _ _ g5⟩
theorem tp_o_TABLE_mono {L L2 : List Nat} {K K2 : Nat → tk_K} (hm : ∀ k n w a, tp_r L K k n w a → tp_r L2 K2 k n w a) {n w : Nat} {γ : Nat → Int} {e : va_E} (h : tp_o_TABLE L K n w γ e) : tp_o_TABLE L2 K2 n w γ e := by
  obtain ⟨x0, x1, x2, he, g0, g1, g2⟩ := h
  exact ⟨x0, x1, x2, he, g0, hm _ _ _ _ g1, g2⟩
theorem tp_o_HTABLE_mono {L L2 : List Nat} {K K2 : Nat → tk_K} (hm : ∀ k n w a, tp_r L K k n w a → tp_r L2 K2 k n w a) {n w : Nat} {γ : Nat → Int} {e : va_E} (h : tp_o_HTABLE L K n w γ e) : tp_o_HTABLE L2 K2 n w γ e := by
  obtain ⟨x0, x1, x2, he, g0, g1, g2⟩ := h
  exact ⟨x0, x1, x2, he, g0, hm _ _ _ _ g1, g2⟩
theorem tp_o_TEXTS_mono {L L2 : List Nat} {K K2 : Nat → tk_K} (hm : ∀ k n w a, tp_r L K k n w a → tp_r L2 K2 k n w a) {n w : Nat} {γ : Nat → Int} {e : va_E} (h : tp_o_TEXTS L K n w γ e) : tp_o_TEXTS L2 K2 n w γ e := by
  obtain ⟨x0, x1, he, g0, g1⟩ := h
  exact ⟨x0, x1, he, hm _ _ _ _ g0, g1⟩
theorem tp_o_PARSER_mono {L L2 : List Nat} {K K2 : Nat → tk_K} (hm : ∀ k n w a, tp_r L K k n w a → tp_r L2 K2 k n w a) {n w : Nat} {γ : Nat → Int} {e : va_E} (h : tp_o_PARSER L K n w γ e) : tp_o_PARSER L2 K2 n w γ e := by
  obtain ⟨x0, x1, x2, x3, x4, x5, he, g0, g1⟩ := h
  exact ⟨x0, x1, x2, x3, x4, x5, he, hm _ _ _ _ g0, hm _ _ _ _ g1⟩
theorem tp_o_TOKENS_mono {L L2 : List Nat} {K K2 : Nat → tk_K} (hm : ∀ k n w a, tp_r L K k n w a → tp_r L2 K2 k n w a) {n w : Nat} {γ : Nat → Int} {e : va_E} (h : tp_o_TOKENS L K n w γ e) : tp_o_TOKENS L2 K2 n w γ e := by
  obtain ⟨x0, x1, x2, x3, he, g0, g1, g2, g3⟩ := h
  exact ⟨x0, x1, x2, x3, he, hm _ _ _ _ g0, hm _ _ _ _ g1, hm _ _ _ _ g2, g3⟩
theorem tp_o_TEXT_mono {L L2 : List Nat} {K K2 : Nat → tk_K} (hm : ∀ k n w a, tp_r L K k n w a → tp_r L2 K2 k n w a) {n w : Nat} {γ : Nat → Int} {e : va_E} (h : tp_o_TEXT L K n w γ e) : tp_o_TEXT L2 K2 n w γ e := by
  obtain ⟨x0, x1, x2, x3, x4, x5, x6, x7, x8, he, g0, g1, g2, g3, g4, g5, g6, g7, g8⟩ := h
  exact ⟨x0, x1, x2, x3, x4, x5, x6, x7, x8, he, g0, hm _ _ _ _ g1, hm _ _ _ _ g2, hm _ _ _ _ g3, hm _ _ _ _ g4, hm _ _ _ _ g5, hm _ _ _ _ g6, hm _ _ _ _ g7, g8⟩
theorem tp_o_SUMS_mono {L L2 : List Nat} {K K2 : Nat → tk_K} (hm : ∀ k n w a, tp_r L K k n w a → tp_r L2 K2 k n w a) {n w : Nat} {γ : Nat → Int} {e : va_E} (h : tp_o_SUMS L K n w γ e) : tp_o_SUMS L2 K2 n w γ e := by
  obtain ⟨x0, x1, he, g0, g1⟩ := h
  exact ⟨x0, x1, he, hm _ _ _ _ g0, hm _ _ _ _ g1⟩
theorem tp_o_MAKER_mono {L L2 : List Nat} {K K2 : Nat → tk_K} (hm : ∀ k n w a, tp_r L K k n w a → tp_r L2 K2 k n w a) {n w : Nat} {γ : Nat → Int} {e : va_E} (h : tp_o_MAKER L K n w γ e) : tp_o_MAKER L2 K2 n w γ e := by
  obtain ⟨x0, x1, x2, x3, x4, he, g0⟩ := h
  exact ⟨x0, x1, x2, x3, x4, he, hm _ _ _ _ g0⟩
theorem tp_o_VIEW_mono {L L2 : List Nat} {K K2 : Nat → tk_K} (hm : ∀ k n w a, tp_r L K k n w a → tp_r L2 K2 k n w a) {n w : Nat} {γ : Nat → Int} {e : va_E} (h : tp_o_VIEW L K n w γ e) : tp_o_VIEW L2 K2 n w γ e := by
  obtain ⟨x0, x1, x2, x3, x4, x5, x6, x7, x8, x9, x10, x11, x12, x13, x14, x15, x16, x17, he, g0, g1, g2, g3, g4, g5, g6, g7, g8, g10, g13⟩ := h
  exact ⟨x0, x1, x2, x3, x4, x5, x6, x7, x8, x9, x10, x11, x12, x13, x14, x15, x16, x17, he, hm _ _ _ _ g0, hm _ _ _ _ g1, hm _ _ _ _ g2, hm _ _ _ _ g3, hm _ _ _ _ g4, hm _ _ _ _ g5, hm _ _ _ _ g6, hm _ _ _ _ g7, hm _ _ _ _ g8, g10, g13⟩
theorem tp_o_RESTS_mono {L L2 : List Nat} {K K2 : Nat → tk_K} (hm : ∀ k n w a, tp_r L K k n w a → tp_r L2 K2 k n w a) {n w : Nat} {γ : Nat → Int} {e : va_E} (h : tp_o_RESTS L K n w γ e) : tp_o_RESTS L2 K2 n w γ e := by
  obtain ⟨x0, x1, he, g0, g1⟩ := h
  exact ⟨x0, x1, he, hm _ _ _ _ g0, hm _ _ _ _ g1⟩
theorem tp_o_M_mono {L L2 : List Nat} {K K2 : Nat → tk_K} (hm : ∀ k n w a, tp_r L K k n w a → tp_r L2 K2 k n w a) {n w : Nat} {γ : Nat → Int} {e : va_E} (h : tp_o_M L K n w γ e) : tp_o_M L2 K2 n w γ e := by
  obtain ⟨r, v, q, he, h1, h2⟩ := h
  exact ⟨r, v, q, he, fun k hk => hm _ _ _ _ (h1 k hk), h2⟩
theorem tp_aq_mono {L L2 : List Nat} {K K2 : Nat → tk_K} (hm : ∀ k n w a, tp_r L K k n w a → tp_r L2 K2 k n w a) {cy : Nat → ClassId} {t k n : Nat} {e : va_E} (h : tp_aq cy L K t k n e) : tp_aq cy L2 K2 t k n e := by
  obtain ⟨g, he, h⟩ := h
  exact ⟨g, he, fun j hj b hb => hm _ _ _ _ (h j hj b hb)⟩
theorem tp_ab_mono {L L2 : List Nat} {K K2 : Nat → tk_K} (hm : ∀ k n w a, tp_r L K k n w a → tp_r L2 K2 k n w a) {cy : Nat → ClassId} {n : Nat} {γ : Nat → Int} {e : va_E} (h : tp_ab cy L K n γ e) : tp_ab cy L2 K2 n γ e := by
  obtain ⟨g, he, h⟩ := h
  exact ⟨g, he, fun j hj => ⟨fun b hb => ⟨hm _ _ _ _ ((h j hj).1 b hb).1, ((h j hj).1 b hb).2⟩, (h j hj).2⟩⟩
theorem tp_aa_mono {L L2 : List Nat} {K K2 : Nat → tk_K} (hm : ∀ k n w a, tp_r L K k n w a → tp_r L2 K2 k n w a) {cy : Nat → ClassId} {n w : Nat} {e : va_E} (h : tp_aa cy L K n w e) : tp_aa cy L2 K2 n w e := by
  obtain ⟨g, he, h⟩ := h
  refine ⟨g, he, fun j hj => ?_⟩
  obtain ⟨b, h1, h2⟩ := h j hj
  exact ⟨b, h1, hm _ _ _ _ h2⟩
theorem tp_ok_mono {cy : Nat → ClassId} {L L2 : List Nat} {K K2 : Nat → tk_K} (hm : ∀ k n w a, tp_r L K k n w a → tp_r L2 K2 k n w a) : ∀ {k n w : Nat} {γ : Nat → Int} {e : va_E}, tp_ok cy L K k n w γ e → tp_ok cy L2 K2 k n w γ e
  | 0, n, w, γ, _, h => tp_o_X_mono (n := n) (w := w) (γ := γ) hm h
  | 1, n, w, γ, _, h => tp_o_BOOK_mono (n := n) (w := w) (γ := γ) hm h
  | 2, n, w, γ, _, h => h
  | 3, n, w, γ, _, h => tp_o_ROWS_mono (n := n) (w := w) (γ := γ) hm h
  | 4, n, w, γ, _, h => h
  | 5, n, w, γ, _, h => tp_aa_mono (n := n) (w := w) hm h
  | 6, n, w, γ, _, h => h
  | 7, n, w, γ, _, h => tp_o_TABLE_mono (n := n) (w := w) (γ := γ) hm h
  | 8, n, w, γ, _, h => h
  | 9, n, w, γ, _, h => tp_o_HTABLE_mono (n := n) (w := w) (γ := γ) hm h
  | 10, n, w, γ, _, h => h
  | 11, n, w, γ, _, h => h
  | 12, n, w, γ, _, h => tp_ab_mono (n := n) (γ := γ) hm h
  | 13, n, w, γ, _, h => tp_o_TEXTS_mono (n := n) (w := w) (γ := γ) hm h
  | 14, n, w, γ, _, h => tp_aq_mono (n := n) hm h
  | 15, n, w, γ, _, h => tp_o_PARSER_mono (n := n) (w := w) (γ := γ) hm h
  | 16, n, w, γ, _, h => tp_o_TOKENS_mono (n := n) (w := w) (γ := γ) hm h
  | 17, n, w, γ, _, h => h
  | 18, n, w, γ, _, h => tp_o_TEXT_mono (n := n) (w := w) (γ := γ) hm h
  | 19, n, w, γ, _, h => h
  | 20, n, w, γ, _, h => h
  | 21, n, w, γ, _, h => h
  | 22, n, w, γ, _, h => tp_o_SUMS_mono (n := n) (w := w) (γ := γ) hm h
  | 23, n, w, γ, _, h => h
  | 24, n, w, γ, _, h => h
  | 25, n, w, γ, _, h => tp_o_MAKER_mono (n := n) (w := w) (γ := γ) hm h
  | 26, n, w, γ, _, h => h
  | 27, n, w, γ, _, h => tp_o_VIEW_mono (n := n) (w := w) (γ := γ) hm h
  | 28, n, w, γ, _, h => h
  | 29, n, w, γ, _, h => h
  | 30, n, w, γ, _, h => h
  | 31, n, w, γ, _, h => h
  | 32, n, w, γ, _, h => h
  | 33, n, w, γ, _, h => tp_o_RESTS_mono (n := n) (w := w) (γ := γ) hm h
  | 34, n, w, γ, _, h => h
  | 35, n, w, γ, _, h => h
  | 36, n, w, γ, _, h => h
  | 37, n, w, γ, _, h => h
  | 38, n, w, γ, _, h => h
  | 39, n, w, γ, _, h => tp_o_M_mono (n := n) (w := w) (γ := γ) hm h
  | 40, n, w, γ, _, h => h
  | 41, n, w, γ, _, h => h
  | 42, n, w, γ, _, h => h
  | 43, n, w, γ, _, h => h
  | 44, n, w, γ, _, h => h
  | 45, n, w, γ, _, h => h
  | 46, n, w, γ, _, h => h
  | 47, n, w, γ, _, h => h
  | 48, n, w, γ, _, h => h
  | 49, n, w, γ, _, h => h
  | 50, n, w, γ, _, h => h
  | 51, n, w, γ, _, h => h
  | 52, n, w, γ, _, h => h
  | 53, n, w, γ, _, h => h
  | 54, n, w, γ, _, h => h
  | 55, n, w, γ, _, h => h
  | 56, n, w, γ, _, h => h
  | 57, n, w, γ, _, h => h
  | 58, n, w, γ, _, h => h
  | 59, n, w, γ, _, h => h
  | 60, n, w, γ, _, h => h
  | 61, n, w, γ, _, h => h
  | 62, n, w, γ, _, h => h
  | 63, n, w, γ, _, h => h
  | 64, n, w, γ, _, h => h
  | 65, n, w, γ, _, h => h
  | 66, n, w, γ, _, h => h
  | 67, n, w, γ, _, h => h
  | 68, n, w, γ, _, h => h
  | 69, n, w, γ, _, h => h
  | 70, n, w, γ, _, h => h
  | 71, n, w, γ, _, h => h
  | _ + 72, _, _, _, _, _ => trivial
/-! ===== more cells in the pool ===== -/
abbrev tx_N := List (Nat × va_E × tk_K)
def tx_K (K : Nat → tk_K) (ns : tx_N) : Nat → tk_K := fun a => match ns.find? (fun q => q.1 == a) with | some q => q.2.2 | none => K a
def tx_f (f : Nat → va_E) (ns : tx_N) : Nat → va_E := fun a => match ns.find? (fun q => q.1 == a) with | some q => q.2.1 | none => f a
def tx_L (L : List Nat) (ns : tx_N) : List Nat := L ++ ns.map (fun q => q.1)
def tx_W (ns : tx_N) : va_W := ns.map (fun q => (q.1, q.2.1))
theorem tx_find {q : Nat × va_E × tk_K} : ∀ {ns : tx_N}, (ns.map (fun q => q.1)).Nodup → q ∈ ns → ns.find? (fun z => z.1 == q.1) = some q := by
  intro ns
  induction ns with
  | nil => intro _ h; cases h
  | cons x t ih =>
    intro hn h
    have hn2 := List.nodup_cons.mp (show (x.1 :: t.map (fun q => q.1)).Nodup from hn)
    rcases List.mem_cons.mp h with rfl | h
    · rw [List.find?_cons_of_pos]
      simp
    · have hne : ¬ (x.1 == q.1) = true := fun e => hn2.1 (by rw [eq_of_beq e]; exact List.mem_map.mpr ⟨q, h, rfl⟩)
      have hb : (x.1 == q.1) = false := by simpa using hne
      simp only [List.find?, hb]
      exact ih hn2.2 h
theorem tx_none {ns : tx_N} {a : Nat} (h : a ∉ ns.map (fun q => q.1)) : ns.find? (fun z => z.1 == a) = none := by
  refine List.find?_eq_none.mpr (fun q hq e => h ?_)
  rw [← eq_of_beq e]
  exact List.mem_map.mpr ⟨q, hq, rfl⟩
section TX
variable {cy : Nat → ClassId} {L : List Nat} {K : Nat → tk_K} {Γ : tk_G} {f : Nat → va_E} {ns : tx_N} {k n w a : Nat}
theorem tx_Ko (h : a ∉ ns.map (fun q => q.1)) : tx_K K ns a = K a := by unfold tx_K; rw [tx_none h]
theorem tx_fo (h : a ∉ ns.map (fun q => q.1)) : tx_f f ns a = f a := by unfold tx_f; rw [tx_none h]
theorem tx_Kn {q : Nat × va_E × tk_K} (hn : (ns.map (fun q => q.1)).Nodup) (h : q ∈ ns) : tx_K K ns q.1 = q.2.2 := by unfold tx_K; rw [tx_find hn h]
theorem tx_fn {q : Nat × va_E × tk_K} (hn : (ns.map (fun q => q.1)).Nodup) (h : q ∈ ns) : tx_f f ns q.1 = q.2.1 := by unfold tx_f; rw [tx_find hn h]
theorem tx_ro (hd : ∀ q ∈ ns.map (fun q => q.1), q ∉ L) (h : tp_r L K k n w a) : tp_r (tx_L L ns) (tx_K K ns) k n w a :=
  ⟨List.mem_append_left _ h.1, by rw [tx_Ko (fun q => hd a q h.1)]; exact h.2⟩
theorem tx_rn {e : va_E} (hn : (ns.map (fun q => q.1)).Nodup) (h : (a, e, (k, n, w)) ∈ ns) : tp_r (tx_L L ns) (tx_K K ns) k n w a :=
  ⟨List.mem_append_right _ (List.mem_map.mpr ⟨_, h, rfl⟩), tx_Kn (q := (a, e, (k, n, w))) hn h⟩
theorem tx_pl (hn : (ns.map (fun q => q.1)).Nodup) (hd : ∀ q ∈ ns.map (fun q => q.1), q ∉ L) : va_pl (tx_L L ns) (tx_f f ns) = va_pl L f ++ tx_W ns := by
  unfold va_pl tx_L tx_W
  rw [List.map_append, List.map_map]
  congr 1
  · exact List.map_congr_left (fun a ha => by rw [tx_fo (fun q => hd a q ha)])
  · exact List.map_congr_left (fun q hq => by show (q.1, tx_f f ns q.1) = (q.1, q.2.1); rw [tx_fn hn hq])
theorem tx_I (hI : tp_I cy L K Γ f) (hn : (ns.map (fun q => q.1)).Nodup) (hd : ∀ q ∈ ns.map (fun q => q.1), q ∉ L) (hok : ∀ q ∈ ns, tp_ok cy (tx_L L ns) (tx_K K ns) q.2.2.1 q.2.2.2.1 q.2.2.2.2 (Γ q.2.2) q.2.1) : tp_I cy (tx_L L ns) (tx_K K ns) Γ (tx_f f ns) := by
  intro a ha
  rcases List.mem_append.mp ha with h | h
  · have h1 : a ∉ ns.map (fun q => q.1) := fun q => hd a q h
    rw [tx_Ko h1, tx_fo h1]
    exact tp_ok_mono (fun k n w b hb => tx_ro hd hb) (hI a h)
  · obtain ⟨q, hq, rfl⟩ := List.mem_map.mp h
    rw [tx_Kn hn hq, tx_fn hn hq]
    exact hok q hq
theorem tx_U (hU : tp_U L K) (hn : (ns.map (fun q => q.1)).Nodup) (hd : ∀ q ∈ ns.map (fun q => q.1), q ∉ L) (h1 : ∀ q ∈ ns, ∀ a ∈ L, tk_t q.2.2.1 = true → ¬ K a = q.2.2) (h2 : ∀ q ∈ ns, ∀ q2 ∈ ns, q.2.2 = q2.2.2 → tk_t q.2.2.1 = true → q.1 = q2.1) : tp_U (tx_L L ns) (tx_K K ns) := by
  intro a ha b hb e ht
  rcases List.mem_append.mp ha with h | h <;> rcases List.mem_append.mp hb with g | g
  · rw [tx_Ko (fun q => hd a q h), tx_Ko (fun q => hd b q g)] at e
    rw [tx_Ko (fun q => hd a q h)] at ht
    exact hU a h b g e ht
  · obtain ⟨q, hq, rfl⟩ := List.mem_map.mp g
    rw [tx_Ko (fun q => hd a q h), tx_Kn hn hq] at e
    rw [tx_Ko (fun q => hd a q h), e] at ht
    exact absurd e (h1 q hq a h ht)
  · obtain ⟨q, hq, rfl⟩ := List.mem_map.mp h
    rw [tx_Kn hn hq, tx_Ko (fun q => hd b q g)] at e
    rw [tx_Kn hn hq] at ht
    exact absurd e.symm (h1 q hq b g ht)
  · obtain ⟨q, hq, rfl⟩ := List.mem_map.mp h
    obtain ⟨q2, hq2, rfl⟩ := List.mem_map.mp g
    rw [tx_Kn hn hq, tx_Kn hn hq2] at e
    rw [tx_Kn hn hq] at ht
    exact h2 q hq q2 hq2 e ht
theorem tx_nodup (hL : L.Nodup) (hn : (ns.map (fun q => q.1)).Nodup) (hd : ∀ q ∈ ns.map (fun q => q.1), q ∉ L) : (tx_L L ns).Nodup :=
  List.nodup_append.mpr ⟨hL, hn, fun a ha b hb e => hd b hb (e ▸ ha)⟩
end TX
theorem tx_nd : ∀ (ws : va_W), (∀ (i j : Nat) (x y : Nat × va_E), ws[i]? = some x → ws[j]? = some y → x.1 = y.1 → i = j) → (ws.map (fun q => q.1)).Nodup := by
  intro ws
  induction ws with
  | nil => intro _; exact List.nodup_nil
  | cons x t ih =>
    intro h
    refine List.nodup_cons.mpr ⟨fun hx => ?_, ih (fun i j a b ha hb e => Nat.succ.inj (h (i + 1) (j + 1) a b ha hb e))⟩
    obtain ⟨y, hy, e⟩ := List.mem_map.mp hx
    obtain ⟨j, hj⟩ := List.getElem?_of_mem hy
    exact absurd (h 0 (j + 1) x y rfl hj e.symm) (by omega)
/-- what a world of the pool and more cells says of their addresses -/
theorem tx_of {A : Nat → Prop} {L : List Nat} {f : Nat → va_E} {ns : tx_N} (hD : va_D A (va_pl L f ++ tx_W ns)) : (ns.map (fun q => q.1)).Nodup ∧ (∀ q ∈ ns.map (fun q => q.1), q ∉ L) ∧ ∀ q ∈ ns.map (fun q => q.1), A q := by
  have e : (tx_W ns).map (fun q => q.1) = ns.map (fun q => q.1) := by unfold tx_W; rw [List.map_map]; rfl
  have h0 := tx_nd _ hD.1
  rw [List.map_append, e] at h0
  have e2 : (va_pl L f).map (fun q => q.1) = L := by
    unfold va_pl; rw [List.map_map]; exact List.map_id'' (fun _ => rfl) L
  rw [e2] at h0
  obtain ⟨h1, h2, h3⟩ := List.nodup_append.mp h0
  refine ⟨h2, fun q hq hL => h3 q hL q hq rfl, fun q hq => ?_⟩
  rw [← e] at hq
  obtain ⟨y, hy, rfl⟩ := List.mem_map.mp hq
  obtain ⟨j, hj⟩ := List.getElem?_of_mem (List.mem_append_right (va_pl L f) hy)
  exact hD.2 j y hj
theorem tp_I.irr {cy : Nat → ClassId} {L : List Nat} {K : Nat → tk_K} {Γ Γ2 : tk_G} {f : Nat → va_E} (hI : tp_I cy L K Γ f) (h : ∀ a ∈ L, Γ2 (K a) = Γ (K a)) : tp_I cy L K Γ2 f := by
  intro a ha
  rw [h a ha]
  exact hI a ha
theorem tx_vnd : ∀ (l : List Nat), l.Nodup → va_nd l = true
  | [], _ => rfl
  | a :: l, h => by
    have h2 := List.nodup_cons.mp h
    show (decide (a ∉ l) && va_nd l) = true
    rw [tx_vnd l h2.2, Bool.and_true]
    exact decide_eq_true h2.1
theorem tx_mR {X : va_W} {c0 : Nat × va_E} : (List.range X.length).map (fun i => (X ++ [c0])[i]?) = X.map some := by
  apply List.ext_getElem?
  intro i
  rw [List.getElem?_map, List.getElem?_map]
  by_cases h : i < X.length
  · rw [List.getElem?_range h]
    show some ((X ++ [c0])[i]?) = _
    rw [List.getElem?_append_left h, List.getElem?_eq_getElem h]
    rfl
  · rw [List.getElem?_eq_none (by rw [List.length_range]; omega), List.getElem?_eq_none (by omega)]
    rfl
theorem tx_Pr {D : va_G} {X Y : va_W} {H : Heap} (hP : va_P D vwCl (X ++ Y) H) : va_P D vwCl Y H := fun k x hk => hP (X.length + k) x (by rw [List.getElem?_append_right (by omega)]; rw [Nat.add_sub_cancel_left]; exact hk)
theorem tx_Dr {A : Nat → Prop} {X Y : va_W} (hD : va_D A (X ++ Y)) : va_D A Y := by
  have g : ∀ (k : Nat) (x : Nat × va_E), Y[k]? = some x → (X ++ Y)[X.length + k]? = some x := fun k x hk => by rw [List.getElem?_append_right (by omega)]; rw [Nat.add_sub_cancel_left]; exact hk
  exact ⟨fun i j x y hx hy h => by have := hD.1 _ _ x y (g i x hx) (g j y hy) h; omega, fun k x hx => hD.2 _ x (g k x hx)⟩
/-- the end of a method that may make cells -/
abbrev tx_S := List Nat × (Nat → tk_K) × (Nat → va_E)
def tp_BX (D : va_G) (cy : Nat → ClassId) (L : List Nat) (K : Nat → tk_K) (Γ : tk_G) (sz w9 : Nat) (u : tx_S) (t : State) : Prop := va_P D vwCl (va_pl u.1 u.2.2) t.heap ∧ tp_I cy u.1 u.2.1 Γ u.2.2 ∧ u.1.Nodup ∧ tp_U u.1 u.2.1 ∧ (∀ k n w a, tp_r L K k n w a → tp_r u.1 u.2.1 k n w a) ∧ ∀ a ∈ u.1, a ∈ L ∨ (sz ≤ a ∧ (u.2.1 a).2.2 = w9)
theorem tx_h2 : ∀ (ns : tx_N), ((ns.map (fun q => (q.2.2.1, q.2.2.2.1))).filter (fun p => tk_t p.1)).Nodup → ∀ q ∈ ns, ∀ q2 ∈ ns, q.2.2 = q2.2.2 → tk_t q.2.2.1 = true → q.1 = q2.1 := by
  intro ns
  induction ns with
  | nil => intro _ q hq; cases hq
  | cons x t ih =>
    intro hn q hq q2 hq2 e ht
    rw [List.map_cons, List.filter_cons] at hn
    have mem : ∀ z ∈ t, tk_t z.2.2.1 = true → (z.2.2.1, z.2.2.2.1) ∈ (t.map (fun q => (q.2.2.1, q.2.2.2.1))).filter (fun p => tk_t p.1) := fun z hz hk => List.mem_filter.mpr ⟨List.mem_map.mpr ⟨z, hz, rfl⟩, hk⟩
    by_cases hx : tk_t x.2.2.1 = true
    · rw [if_pos hx] at hn
      obtain ⟨n1, n2⟩ := List.nodup_cons.mp hn
      rcases List.mem_cons.mp hq with a1 | a1 <;> rcases List.mem_cons.mp hq2 with a2 | a2
      · rw [a1, a2]
      · refine absurd (mem q2 a2 (by rw [← e]; exact ht)) ?_
        rw [← e, a1]; exact n1
      · refine absurd (mem q a1 ht) ?_
        rw [e, a2]; exact n1
      · exact ih n2 q a1 q2 a2 e ht
    · rw [if_neg hx] at hn
      rcases List.mem_cons.mp hq with a1 | a1
      · rw [a1] at ht; exact absurd ht hx
      · rcases List.mem_cons.mp hq2 with a2 | a2
        · rw [e, a2] at ht; exact absurd ht hx
        · exact ih hn q a1 q2 a2 e ht
section TXC
variable {p : Program} {l : Launch} {e : Env} {R : Room} {s : State} {m : MethodId} {args : Array Value} {below : List Frame} {meth : Method} {c : Code} {H : Heap} {locs : List Loc} {cells slots : Nat} {Q : State → Prop}
variable {cc : ByteArray} {pc : Nat} {ls : Array Slot} {rest st0 As : List Value} {D : va_G} {A : Nat → Prop} {a b : Nat} {H0 : Heap} {cy : Nat → ClassId} {L : List Nat} {K : Nat → tk_K} {f : Nat → va_E} {Γ : tk_G} {mc ms : Nat}
theorem tx_cv {S : Type} {X : va_W} {c0 : Nat × va_E} (post : S → Prop) (w1 : S → va_W) (hP : va_P D vwCl (X ++ [c0]) H) (hD : va_D A (X ++ [c0])) (hS : va_S A H0 H locs) (hA : ∀ q, H0.size ≤ q → A q) {a : Array Value}
    (hr : va_Run p l e R s m args below meth c H locs cells slots mc ms (F0 m pc ls st0) rest (va_Qv post (tl_B D (va_A [c0] H.size) w1) (va_A [c0] H.size) a) (va_A [c0] H.size))
    (kk : ∀ (u : S) (H1 : Heap) (locs1 : List Loc), post u → va_P D vwCl (X ++ w1 u) H1 → va_D A (X ++ w1 u) → va_S A H0 H1 locs1 → W p l e R s m args below meth c H1 locs1 (cells + mc) (slots + ms) Q (F0 m (pc + 3) ls rest)) : W p l e R s m args below meth c H locs cells slots Q (F0 m pc ls st0) :=
  tl_cv post w1 hP hD hS hA [X.length] (List.range X.length) (by simp) tx_mR (tx_vnd _ List.nodup_range) (fun i hi h => by
    have h1 := List.mem_range.mp hi
    have h2 := List.mem_singleton.mp h
    omega) hr kk
/-- from here on the pool has these cells too -/
theorem tx_go {ns : tx_N} {w9 : Nat} {g : JFrame} (hP : va_P D vwCl (va_pl L f ++ tx_W ns) H) (hD : va_D A (va_pl L f ++ tx_W ns)) (hI : tp_I cy L K Γ f) (hL : L.Nodup) (hU : tp_U L K) (hAL : ∀ q ∈ L, A q) (hns : ∀ q ∈ ns, q.2.2.2.2 = w9) (hsz : ∀ q, A q → q ∈ L ∨ H0.size ≤ q)
    (h1 : (∀ q ∈ ns, q.2.2.2.2 = w9) → ∀ q ∈ ns, ∀ a ∈ L, tk_t q.2.2.1 = true → ¬ K a = q.2.2) (h2 : (ns.map (fun q => q.1)).Nodup → ∀ q ∈ ns, ∀ q2 ∈ ns, q.2.2 = q2.2.2 → tk_t q.2.2.1 = true → q.1 = q2.1)
    (hok : (∀ q ∈ ns, tp_r (tx_L L ns) (tx_K K ns) q.2.2.1 q.2.2.2.1 q.2.2.2.2 q.1) → ∀ q ∈ ns, tp_ok cy (tx_L L ns) (tx_K K ns) q.2.2.1 q.2.2.2.1 q.2.2.2.2 (Γ q.2.2) q.2.1)
    (kk : ∀ (L2 : List Nat) (K2 : Nat → tk_K) (f2 : Nat → va_E), va_P D vwCl (va_pl L2 f2) H → tp_I cy L2 K2 Γ f2 → L2.Nodup → tp_U L2 K2 → (∀ q ∈ L2, A q) → (∀ k n w a, tp_r L K k n w a → tp_r L2 K2 k n w a) → (∀ q ∈ ns, tp_r L2 K2 q.2.2.1 q.2.2.2.1 q.2.2.2.2 q.1 ∧ f2 q.1 = q.2.1) → (∀ a ∈ L2, a ∈ L ∨ (H0.size ≤ a ∧ (K2 a).2.2 = w9)) → (∀ a ∈ L, f2 a = f a) → W p l e R s m args below meth c H locs cells slots Q g) : W p l e R s m args below meth c H locs cells slots Q g := by
  obtain ⟨q1, q2, q3⟩ := tx_of hD
  have hr : ∀ q ∈ ns, tp_r (tx_L L ns) (tx_K K ns) q.2.2.1 q.2.2.2.1 q.2.2.2.2 q.1 := fun q hq => ⟨List.mem_append_right _ (List.mem_map.mpr ⟨q, hq, rfl⟩), tx_Kn q1 hq⟩
  refine kk (tx_L L ns) (tx_K K ns) (tx_f f ns) (by rw [tx_pl q1 q2]; exact hP) (tx_I hI q1 q2 (hok hr)) (tx_nodup hL q1 q2) (tx_U hU q1 q2 (h1 hns) (h2 q1)) (fun q hq => (List.mem_append.mp hq).elim (hAL q) (q3 q)) (fun k n w a h => tx_ro q2 h) (fun q hq => ⟨hr q hq, tx_fn q1 hq⟩) (fun a ha => ?_) (fun a ha => tx_fo (fun q => q2 a q ha))
  rcases List.mem_append.mp ha with h | h
  · exact Or.inl h
  · obtain ⟨q, hq, rfl⟩ := List.mem_map.mp h
    exact Or.inr ⟨(hsz _ (q3 _ h)).resolve_left (q2 _ h), by rw [tx_Kn q1 hq]; exact hns q hq⟩
theorem tp_astq {t0 ci : Nat} {v n : Nat} {r : vw_C} {vs : List Value} {g : Nat → Option Nat} (hexec : p.tables.exec = Jvm.exec) (hb : c.code = cc) (hK : va_K D vwCl (tl_T cy) s) (hP : va_P D vwCl (va_pl L f) H) (hD : va_D A (va_pl L f)) (hS : va_S A H0 H locs) (ha : a ∈ L) (hf : f a = .inl (cy t0, n, .inr (.inr (.inr (.inr g))))) (ht : (tl_T cy)[t0]? = some (cy t0, .object r.1)) (hv : v ∈ L) (hfv : f v = .inr (ci, vs)) (hc : vwCl[ci]? = some r) {i : Int32} (hin : vp_in i n) (hdg : decode cc pc = .ok (.aastore, 1))
    (kk : ∀ (H1 : Heap) (locs1 : List Loc), va_P D vwCl (va_pl L (va_up f a (.inl (cy t0, n, .inr (.inr (.inr (.inr (va_up g i.toNatClampNeg (some v))))))))) H1 → va_D A (va_pl L (va_up f a (.inl (cy t0, n, .inr (.inr (.inr (.inr (va_up g i.toNatClampNeg (some v))))))))) → va_S A H0 H1 locs1 → W p l e R s m args below meth c H1 locs1 cells slots Q (F0 m (pc + 1) ls rest)) : W p l e R s m args below meth c H locs cells slots Q (F0 m pc ls (.ref v :: .int i :: .ref a :: rest)) := by
  obtain ⟨q0, h0⟩ := tp_at (f := f) ha
  obtain ⟨q1, h1⟩ := tp_at (f := f) hv
  have hs := tp_set (e := .inl (cy t0, n, .inr (.inr (.inr (.inr (va_up g i.toNatClampNeg (some v))))))) hD ha h0
  rw [hf] at h0
  rw [hfv] at h1
  refine va_astq hexec hb hK hP hD hS q0 t0 q1 ci h0 ht h1 hc hin hdg (fun H1 locs1 hP1 hD1 hS1 => ?_)
  rw [hs] at hP1 hD1
  exact kk H1 locs1 hP1 hD1 hS1
end TXC
theorem tp_aq_upd {L : List Nat} {K : Nat → tk_K} {k n i v : Nat} {g : Nat → Option Nat} (h : ∀ j : Nat, j < n → ∀ b, g j = some b → tp_r L K k 0 0 b) (hv : tp_r L K k 0 0 v) : ∀ j : Nat, j < n → ∀ b, va_up g i (some v) j = some b → tp_r L K k 0 0 b := by
  intro j hj b hb
  by_cases e : j = i
  · rw [e, va_up_self] at hb
    cases hb
    exact hv
  · rw [va_up_ne _ _ e] at hb
    exact h j hj b hb
theorem tp_ab_upd {L : List Nat} {K : Nat → tk_K} {k n i v : Nat} {γ : Nat → Int} {g : Nat → Option Nat} (h : ∀ j : Nat, j < n → (∀ b, g j = some b → tp_r L K k 0 (j + 1) b ∧ γ j = 1) ∧ (g j = none → γ j = 0)) (hv : tp_r L K k 0 (i + 1) v) : ∀ j : Nat, j < n → (∀ b, va_up g i (some v) j = some b → tp_r L K k 0 (j + 1) b ∧ tgu γ i 1 j = 1) ∧ (va_up g i (some v) j = none → tgu γ i 1 j = 0) := by
  intro j hj
  by_cases e : j = i
  · subst e
    rw [va_up_self, tgu_s]
    exact ⟨fun b hb => by cases hb; exact ⟨hv, rfl⟩, fun hb => by cases hb⟩
  · rw [va_up_ne _ _ e, tgu_n e]
    exact h j hj
def tv_full (e : va_E) (n : Nat) : Prop := ∃ (fs : List Value) (a : Int32), e = .inr (8, fs) ∧ fs[1]? = some (.int a) ∧ (n : Int) ≤ a.toInt
theorem tv_full.no {e : va_E} {n : Nat} {fs : List Value} {a : Int32} (h : ¬ tv_full e n) (hf : e = .inr (8, fs)) (ha : fs[1]? = some (.int a)) : a.toInt < n := Int.not_le.mp fun q => h ⟨fs, a, hf, ha, q⟩
theorem tv_full.yes {e : va_E} {n : Nat} {fs : List Value} {a : Int32} (h : tv_full e n) (hf : e = .inr (8, fs)) (ha : fs[1]? = some (.int a)) : (n : Int) ≤ a.toInt := by
  obtain ⟨fs2, a2, h1, h2, h3⟩ := h
  obtain rfl := tv_in hf h1
  obtain rfl := tv_int (ha.symm.trans h2)
  exact h3
set_option maxHeartbeats 4000000 in
set_option maxRecDepth 100000 in
theorem tx_isFull (l : Launch) (D : va_G) (cy : Nat → ClassId) (sz : Nat) (L : List Nat) (K : Nat → tk_K) (Γ : tk_G) (f : Nat → va_E) (n : Nat) (o : Nat) (ho : tp_r L K 13 (n) 0 o) (hn : n ≤ 8) : Met l yX8_isFull (tl_w yX8_isFull cX8_isFull 1 (some .boolean)) ({ frames := 0, cells := 0, slots := 0, locals := 0 }) (va_Pc [.ref o] (tp_P D cy L K Γ f sz)) (vp_Si (fun r : Int32 => tl_E r (tv_full (f o) n) 1 0)) 0 0 (fun _ => False) := by
  refine Met.ofW (cc := cX8_isFull) (maxL := 1) (ret := (some .boolean)) (by decide) rfl ?_
  intro p e s m args below meth c s₁ B hml hv
  obtain ⟨rfl, hsz, hP, hK, hL, hI, hN, hU⟩ := hv
  have hx := B.exec
  have hb := B.bytes
  have hr := B.returns
  have hta := tl_hta (atoms_spec (ws := tl_w yX8_isFull cX8_isFull 1 (some .boolean)) B.pre)
  have hown : s.vm.findClass RX8 = some m.cls := findClass_of_methodNamed B.named
  have hlocks := B.notSynchronized
  subst hsz
  have hI0 := hI
  have hl := lv_entry ([.ref o]) (n := 1) (Nat.le_of_ble_eq_true rfl)
  rw [lg_entry_eq]
  generalize (lg_sl ([.ref o]) ++ List.replicate (1 - (lg_sl ([.ref o])).length) Slot.unset).toArray = ls at hl ⊢
  have hl : lv_has ls 1 [(0, .ref o)] := hl
  have hnn : (nI n).toInt = (n : Int) := nI_toInt (by omega)
  refine lv_aload_n hx hb dX8_isFull_0 rfl (lv_at hl 0 rfl) ?_
  obtain ⟨x_2, x_3, hf_1, hx_2, hx_3⟩ := (show tp_o_TEXTS L K (n) 0 (Γ (13, n, 0)) (f o) from hI0.at ho)
  refine tp_get (cy := cy) (ci := 8) (v := .int x_3) (C := RX8) (T := TX8) (N := 2) hx hb hta inlX8 hown hK hP ho.1 hf_1 rfl 1 (by decide) (hta _ wk_371) (fun _ h9 => h9) rfl dX8_isFull_1 ?_
  refine lv_aload_n hx hb dX8_isFull_4 rfl (lv_at hl 0 rfl) ?_
  refine tp_get (cy := cy) (ci := 8) (v := .ref x_2) (C := RX8) (T := TX8) (N := 2) hx hb hta inlX8 hown hK hP ho.1 hf_1 rfl 0 (by decide) (hta _ wk_92) (fun _ h9 => h9) rfl dX8_isFull_5 ?_
  obtain ⟨g_5, hf_4, hg_6⟩ := (show tp_aq cy L K 5 18 (n) (f x_2) from hI0.at hx_2)
  refine tp_alen (cy := cy) (t0 := 5) (v := nI n) hx hb hK hP hx_2.1 rfl hf_4 rfl dX8_isFull_8 ?_
  refine lv_icmp_lt (tgt := 16) hx hb dX8_isFull_9 (by decide) (fun c_7 => ?_) (fun c_7 => ?_)
  · have c_7 : x_3.toInt < (nI n).toInt := tl_lt c_7
    refine lv_iconst (v := 0) hx hb dX8_isFull_16 (by decide) ?_
    exact W.zret (ty := .boolean) (v := 0) hx hb hr rfl (fun t ht hW => ⟨_, rfl, (Or.inr ⟨fun q9 => by have q8 := q9.yes hf_1 rfl; omega, rfl⟩), ht⟩) (fun q h => by cases h) dX8_isFull_17
  · have c_7 : (nI n).toInt ≤ x_3.toInt := tl_nlt c_7
    refine lv_iconst (v := 1) hx hb dX8_isFull_12 (by decide) ?_
    refine lv_goto (tgt := 17) hx hb dX8_isFull_13 (by decide) ?_
    exact W.zret (ty := .boolean) (v := 1) hx hb hr rfl (fun t ht hW => ⟨_, rfl, (Or.inl ⟨⟨_, _, hf_1, rfl, by omega⟩, rfl⟩), ht⟩) (fun q h => by cases h) dX8_isFull_17
set_option maxHeartbeats 4000000 in
set_option maxRecDepth 100000 in
theorem t_X8_keep (l : Launch) (D : va_G) (cy : Nat → ClassId) (sz : Nat) (L : List Nat) (K : Nat → tk_K) (Γ : tk_G) (f : Nat → va_E) (n : Nat) (o : Nat) (q : Nat) (ho : tp_r L K 13 (n) 0 o) (hq : tp_r L K 18 (0) 0 q) (hn : n ≤ 8) : Met l yX8_keep (tl_w yX8_keep cX8_keep 2 (some .int)) ({ frames := 1, cells := 0, slots := 0, locals := 20 }) (va_Pc [.ref o, .ref q] (tp_P D cy L K Γ f sz)) (va_Qi (fun (r : Int32) (u : Nat → va_E) => True) (tp_B D cy L K Γ f [14, 13]) (tp_A L sz)) 0 0 (tp_A L sz) := by
  refine Met.ofW (cc := cX8_keep) (maxL := 2) (ret := (some .int)) (by decide) rfl ?_
  intro p e s m args below meth c s₁ B hml hv
  obtain ⟨rfl, hsz, hP, hK, hL, hI, hN, hU⟩ := hv
  have hx := B.exec
  have hb := B.bytes
  have hr := B.returns
  have hta := tl_hta (atoms_spec (ws := tl_w yX8_keep cX8_keep 2 (some .int)) B.pre)
  have hown : s.vm.findClass RX8 = some m.cls := findClass_of_methodNamed B.named
  have hlocks := B.notSynchronized
  subst hsz
  have hI0 := hI
  generalize hAe : tp_A L s.heap.size = A
  have hA : ∀ q : Nat, s.heap.size ≤ q → A q := fun q h => by rw [← hAe]; exact Or.inr h
  have hAL : ∀ q ∈ L, A q := fun q h => by rw [← hAe]; exact Or.inl h
  have hAf : ∀ (H : Heap), s.heap.size ≤ H.size → ∀ q, tp_A L H.size q → A q := fun H h q hq => hq.elim (hAL q) (fun h2 => hA q (Nat.le_trans h h2))
  have hS : va_S A s.heap s.heap [] := va_S.rf
  have hD : va_D A (va_pl L f) := tp_D hL hAL
  have hfr : ∀ b, (K b).1 ∉ ([14, 13] : List Nat) → f b = f b := fun _ _ => rfl
  have hl := lv_entry ([.ref o, .ref q]) (n := 2) (Nat.le_of_ble_eq_true rfl)
  rw [lg_entry_eq]
  generalize (lg_sl ([.ref o, .ref q]) ++ List.replicate (2 - (lg_sl ([.ref o, .ref q])).length) Slot.unset).toArray = ls at hl ⊢
  have hl : lv_has ls 2 [(0, .ref o), (1, .ref q)] := hl
  refine lv_aload_n hx hb dX8_keep_0 rfl (lv_at hl 0 rfl) ?_
  obtain ⟨x_2, x_3, hf_1, hx_2, hx_3⟩ := (show tp_o_TEXTS L K (n) 0 (Γ (13, n, 0)) (f o) from hI.at ho)
  refine tl_si (tq_rV (As := []) (rest := []) ⟨hx, hb, hml, hown, hta⟩ (tp_P.pre hK hN hL hU hI hP) (tp_recv hK hP ho.1 hf_1 rfl) lk_X8_27 (tx_isFull l D cy s.heap.size L K Γ f n o ho (by first | omega | (simp only [Int32.toInt_toInt64]; omega) | decide | assumption)) rfl rfl ⟨Nat.le_of_ble_eq_true rfl, Nat.le_of_ble_eq_true rfl⟩ rfl hl.1 rfl (Nat.le_of_ble_eq_true rfl) dX8_keep_1 ⟨Nat.le_of_ble_eq_true rfl, Nat.le_of_ble_eq_true rfl⟩) (fun r_5 hw_4 => ?_)
  have hw_4 : tl_E r_5 (tv_full (f o) n) 1 0 := hw_4
  refine lv_if_eq (tgt := 9) hx hb dX8_keep_4 (by decide) (fun c_6 => ?_) (fun c_6 => ?_)
  · have c_6 := hw_4.f c_6
    have hfl := tv_full.no (by assumption : ¬ tv_full (f o) n) hf_1 rfl
    refine lv_aload_n hx hb dX8_keep_9 rfl (lv_at hl 0 rfl) ?_
    refine tp_get (cy := cy) (ci := 8) (v := .ref x_2) (C := RX8) (T := TX8) (N := 2) hx hb hta inlX8 hown hK hP ho.1 hf_1 rfl 0 (by decide) (hta _ wk_92) (fun _ h9 => h9) rfl dX8_keep_10 ?_
    refine lv_aload_n hx hb dX8_keep_13 rfl (lv_at hl 0 rfl) ?_
    refine tp_get (cy := cy) (ci := 8) (v := .int x_3) (C := RX8) (T := TX8) (N := 2) hx hb hta inlX8 hown hK hP ho.1 hf_1 rfl 1 (by decide) (hta _ wk_371) (fun _ h9 => h9) rfl dX8_keep_14 ?_
    refine lv_aload_n hx hb dX8_keep_17 rfl (lv_at hl 1 rfl) ?_
    obtain ⟨g_8, hf_7, hg_9⟩ := (show tp_aq cy L K 5 18 (n) (f x_2) from hI.at hx_2)
    obtain ⟨x_11, x_12, x_13, x_14, x_15, x_16, x_17, x_18, x_19, hf_10, hx_11, hx_12, hx_13, hx_14, hx_15, hx_16, hx_17, hx_18, hx_19⟩ := (show tp_o_TEXT L K (0) 0 (Γ (18, 0, 0)) (f q) from hI0.at hq)
    have hn_20 : vp_in x_3 (n) := tl_in (by omega) (by omega)
    have hI9 : tp_I cy L K Γ (va_up f x_2 (.inl (cy 5, n, .inr (.inr (.inr (.inr (va_up g_8 x_3.toNatClampNeg (some q)))))))) := hI.set hx_2 (show tp_aq cy L K 5 18 (n) _ from ⟨_, rfl, tp_aq_upd hg_9 hq⟩)
    have hfr9 : ∀ b, (K b).1 ∉ ([14, 13] : List Nat) → va_up f x_2 (.inl (cy 5, n, .inr (.inr (.inr (.inr (va_up g_8 x_3.toNatClampNeg (some q))))))) b = f b := tp_fr hfr hx_2 (by decide)
    refine tp_astq (cy := cy) (t0 := 5) (ci := 7) hx hb hK hP hD hS hx_2.1 hf_7 rfl hq.1 hf_10 rfl hn_20 dX8_keep_18 (fun H locs hP hD hS => ?_)
    have hP : va_P D vwCl (va_pl L (va_up f x_2 (.inl (cy 5, n, .inr (.inr (.inr (.inr (va_up g_8 x_3.toNatClampNeg (some q))))))))) H := hP
    generalize hfe : va_up f x_2 (.inl (cy 5, n, .inr (.inr (.inr (.inr (va_up g_8 x_3.toNatClampNeg (some q))))))) = f_21 at hP hI9 hfr9
    have hD : va_D A (va_pl L f_21) := tp_D hL hAL
    have hf_22 := (show f_21 o = _ from by rw [← hfe, va_up_ne _ _ (tp_ne ho hx_2 (by decide))]).trans hf_1
    have hf_23 : f_21 x_2 = .inl (cy 5, n, .inr (.inr (.inr (.inr (va_up g_8 x_3.toNatClampNeg (some q)))))) := by rw [← hfe]; exact va_up_self _ _ _
    clear hfe
    have hI := hI9
    have hfr := hfr9
    clear hI9 hfr9
    refine lv_aload_n hx hb dX8_keep_19 rfl (lv_at hl 0 rfl) ?_
    refine lv_dup hx hb dX8_keep_20 rfl ?_
    refine tp_get (cy := cy) (ci := 8) (v := .int x_3) (C := RX8) (T := TX8) (N := 2) hx hb hta inlX8 hown hK hP ho.1 hf_22 rfl 1 (by decide) (hta _ wk_371) (fun _ h9 => h9) rfl dX8_keep_21 ?_
    refine lv_iconst (v := 1) hx hb dX8_keep_24 (by decide) ?_
    refine lv_iadd hx hb dX8_keep_25 ?_
    refine lv_topi (fun z_24 ez_24 => ?_)
    try have iz_24 : z_24.toInt = x_3.toInt + (1 : Int) := by rw [ez_24]; exact tl_addN x_3 1 rfl rfl (by omega) (by omega)
    have hI9 : tp_I cy L K Γ (va_up f_21 o (.inr (8, [.ref x_2, .int z_24]))) := hI.set ho (show tp_o_TEXTS L K (n) 0 (Γ (13, n, 0)) _ from ⟨x_2, z_24, rfl, hx_2, (show 0 ≤ z_24.toInt ∧ z_24.toInt ≤ 8 from by omega)⟩)
    have hfr9 : ∀ b, (K b).1 ∉ ([14, 13] : List Nat) → va_up f_21 o (.inr (8, [.ref x_2, .int z_24])) b = f b := tp_fr hfr ho (by decide)
    refine tp_put (cy := cy) (ci := 8) (v := .int z_24) (ty := tyX8 1) (C := RX8) (T := TX8) (N := 2) hx hb hta inlX8 tyX8 tyX8_ok nmX8 hown hK hP hD hS ho.1 hf_22 rfl 1 (by decide) (hta _ wk_371) (fun _ h9 => h9) rfl (tyX8_ok 1 (by decide)) rfl rfl (Nat.le_of_ble_eq_true rfl) dX8_keep_26 (fun H locs hP hD hS => ?_)
    have hP : va_P D vwCl (va_pl L (va_up f_21 o (.inr (8, [.ref x_2, .int z_24])))) H := hP
    generalize hfe : va_up f_21 o (.inr (8, [.ref x_2, .int z_24])) = f_25 at hP hI9 hfr9
    have hD : va_D A (va_pl L f_25) := tp_D hL hAL
    have hf_26 : f_25 o = .inr (8, [.ref x_2, .int z_24]) := by rw [← hfe]; exact va_up_self _ _ _
    clear hfe
    have hI := hI9
    have hfr := hfr9
    clear hI9 hfr9
    refine lv_aload_n hx hb dX8_keep_29 rfl (lv_at hl 0 rfl) ?_
    refine tp_get (cy := cy) (ci := 8) (v := .int z_24) (C := RX8) (T := TX8) (N := 2) hx hb hta inlX8 hown hK hP ho.1 hf_26 rfl 1 (by decide) (hta _ wk_371) (fun _ h9 => h9) rfl dX8_keep_30 ?_
    refine lv_iconst (v := 1) hx hb dX8_keep_33 (by decide) ?_
    refine lv_isub hx hb dX8_keep_34 ?_
    refine lv_topi (fun z_27 ez_27 => ?_)
    try have iz_27 : z_27.toInt = z_24.toInt - (1 : Int) := by rw [ez_27]; exact tl_subN z_24 1 rfl rfl (by omega) (by omega)
    exact W.iret (v := z_27) hx hb hr (fun t ht hW => ⟨⟨_, f_25, rfl, trivial, by rw [ht]; exact hP, hI, hfr⟩, hS.F ht⟩) hS.2.2 dX8_keep_35
  · have c_6 := hw_4.t c_6
    refine lv_iconst (v := (-1)) hx hb dX8_keep_7 (by decide) ?_
    exact W.iret (v := (-1)) hx hb hr (fun t ht hW => ⟨⟨_, f, rfl, trivial, by rw [ht]; exact hP, hI, hfr⟩, hS.F ht⟩) hS.2.2 dX8_keep_8
set_option maxHeartbeats 4000000 in
set_option maxRecDepth 100000 in
theorem t_X11_shelfOf (l : Launch) (D : va_G) (cy : Nat → ClassId) (sz : Nat) (L : List Nat) (K : Nat → tk_K) (Γ : tk_G) (f : Nat → va_E) (o : Nat) (p0 : Int32) (ho : tp_r L K 0 (0) 0 o) : Met l yX11_shelfOf (tl_w yX11_shelfOf cX11_shelfOf 2 (some (.object "ThinLine$Texts"))) ({ frames := 0, cells := 0, slots := 0, locals := 0 }) (va_Pc [.ref o, .int p0] (tp_P D cy L K Γ f sz)) (va_Sq (fun r : Option Nat => ∀ b, r = some b → ∃ n, n ≤ 8 ∧ tp_r L K 13 n 0 b)) 0 0 (fun _ => False) := by
  refine Met.ofW (cc := cX11_shelfOf) (maxL := 2) (ret := (some (.object "ThinLine$Texts"))) (by decide) rfl ?_
  intro p e s m args below meth c s₁ B hml hv
  obtain ⟨rfl, hsz, hP, hK, hL, hI, hN, hU⟩ := hv
  have hx := B.exec
  have hb := B.bytes
  have hr := B.returns
  have hta := tl_hta (atoms_spec (ws := tl_w yX11_shelfOf cX11_shelfOf 2 (some (.object "ThinLine$Texts"))) B.pre)
  have hown : s.vm.findClass RX11 = some m.cls := findClass_of_methodNamed B.named
  have hlocks := B.notSynchronized
  subst hsz
  have hI0 := hI
  have hl := lv_entry ([.ref o, .int p0]) (n := 2) (Nat.le_of_ble_eq_true rfl)
  rw [lg_entry_eq]
  generalize (lg_sl ([.ref o, .int p0]) ++ List.replicate (2 - (lg_sl ([.ref o, .int p0])).length) Slot.unset).toArray = ls at hl ⊢
  have hl : lv_has ls 2 [(0, .ref o), (1, .int p0)] := hl
  refine lv_iload_n hx hb dX11_shelfOf_0 rfl (lv_at hl 1 rfl) ?_
  rcases (show p0.toInt = 0 ∨ p0.toInt = 1 ∨ p0.toInt = 2 ∨ (p0.toInt < 0 ∨ 2 < p0.toInt) by omega) with c_1 | c_1 | c_1 | c_1
  · refine lv_tableIn (tgt := 28) hx hb dX11_shelfOf_1 (by omega) (by omega) (by rw [c_1]; rfl) (by decide) ?_
    refine lv_aload_n hx hb dX11_shelfOf_28 rfl (lv_at hl 0 rfl) ?_
    obtain ⟨x_3, x_4, x_5, x_6, x_7, x_8, x_9, x_10, x_11, x_12, x_13, x_14, x_15, x_16, x_17, x_18, hf_2, hx_3, hx_4, hx_5, hx_6, hx_7, hx_8, hx_9, hx_10, hx_11, hx_12, hx_13, hx_14, hx_15, hx_16, hx_17, hx_18⟩ := (show tp_o_X L K (0) 0 (Γ (0, 0, 0)) (f o) from hI0.at ho)
    refine tp_get (cy := cy) (ci := 11) (v := .ref x_5) (C := RX11) (T := TX11) (N := 16) hx hb hta inlX11 hown hK hP ho.1 hf_2 rfl 2 (by decide) (hta _ wk_20) (fun _ h9 => h9) rfl dX11_shelfOf_29 ?_
    exact W.aret (v := .ref x_5) hx hb hr (Or.inl ⟨_, rfl⟩) (Or.inr ⟨_, rfl⟩) (fun t ht hW => ⟨some x_5, rfl, (fun _ h9 => by cases h9; exact ⟨_, by decide, hx_5⟩), ht⟩) (fun q h => by cases h) dX11_shelfOf_32
  · refine lv_tableIn (tgt := 33) hx hb dX11_shelfOf_1 (by omega) (by omega) (by rw [c_1]; rfl) (by decide) ?_
    refine lv_aload_n hx hb dX11_shelfOf_33 rfl (lv_at hl 0 rfl) ?_
    obtain ⟨x_20, x_21, x_22, x_23, x_24, x_25, x_26, x_27, x_28, x_29, x_30, x_31, x_32, x_33, x_34, x_35, hf_19, hx_20, hx_21, hx_22, hx_23, hx_24, hx_25, hx_26, hx_27, hx_28, hx_29, hx_30, hx_31, hx_32, hx_33, hx_34, hx_35⟩ := (show tp_o_X L K (0) 0 (Γ (0, 0, 0)) (f o) from hI0.at ho)
    refine tp_get (cy := cy) (ci := 11) (v := .ref x_23) (C := RX11) (T := TX11) (N := 16) hx hb hta inlX11 hown hK hP ho.1 hf_19 rfl 3 (by decide) (hta _ wk_21) (fun _ h9 => h9) rfl dX11_shelfOf_34 ?_
    exact W.aret (v := .ref x_23) hx hb hr (Or.inl ⟨_, rfl⟩) (Or.inr ⟨_, rfl⟩) (fun t ht hW => ⟨some x_23, rfl, (fun _ h9 => by cases h9; exact ⟨_, by decide, hx_23⟩), ht⟩) (fun q h => by cases h) dX11_shelfOf_37
  · refine lv_tableIn (tgt := 38) hx hb dX11_shelfOf_1 (by omega) (by omega) (by rw [c_1]; rfl) (by decide) ?_
    refine lv_aload_n hx hb dX11_shelfOf_38 rfl (lv_at hl 0 rfl) ?_
    obtain ⟨x_37, x_38, x_39, x_40, x_41, x_42, x_43, x_44, x_45, x_46, x_47, x_48, x_49, x_50, x_51, x_52, hf_36, hx_37, hx_38, hx_39, hx_40, hx_41, hx_42, hx_43, hx_44, hx_45, hx_46, hx_47, hx_48, hx_49, hx_50, hx_51, hx_52⟩ := (show tp_o_X L K (0) 0 (Γ (0, 0, 0)) (f o) from hI0.at ho)
    refine tp_get (cy := cy) (ci := 11) (v := .ref x_41) (C := RX11) (T := TX11) (N := 16) hx hb hta inlX11 hown hK hP ho.1 hf_36 rfl 4 (by decide) (hta _ wk_22) (fun _ h9 => h9) rfl dX11_shelfOf_39 ?_
    exact W.aret (v := .ref x_41) hx hb hr (Or.inl ⟨_, rfl⟩) (Or.inr ⟨_, rfl⟩) (fun t ht hW => ⟨some x_41, rfl, (fun _ h9 => by cases h9; exact ⟨_, by decide, hx_41⟩), ht⟩) (fun q h => by cases h) dX11_shelfOf_42
  · refine lv_tableOut (tgt := 43) hx hb dX11_shelfOf_1 (by omega) (by decide) ?_
    refine lv_null hx hb dX11_shelfOf_43 ?_
    exact W.aret (v := .null) hx hb hr (Or.inl ⟨_, rfl⟩) (Or.inl rfl) (fun t ht hW => ⟨none, rfl, (fun _ h9 => by cases h9), ht⟩) (fun q h => by cases h) dX11_shelfOf_44
set_option maxHeartbeats 4000000 in
set_option maxRecDepth 100000 in
theorem t_X11_text (l : Launch) (D : va_G) (cy : Nat → ClassId) (sz : Nat) (L : List Nat) (K : Nat → tk_K) (Γ : tk_G) (f : Nat → va_E) (Z : ts_Y) (o : Nat) (p0 : Int32) (ho : tp_r L K 0 (0) 0 o) : Met l yX11_text (tl_w yX11_text cX11_text 5 (some .int)) ({ frames := 37, cells := 8, slots := 481, locals := 854 }) (va_Pc [.ref o, .int p0] (tp_PS D cy L K Γ f sz Z)) (va_Qi (fun (r : Int32) (u : tx_S) => True) (tp_BX D cy L K Γ sz 0) (tp_A L sz)) 8 481 (tp_A L sz) := by
  refine Met.ofW (cc := cX11_text) (maxL := 5) (ret := (some .int)) (by decide) rfl ?_
  intro p e s m args below meth c s₁ B hml hv
  obtain ⟨rfl, hsz, hP, hK, hL, hI, hN, hU, hZ⟩ := hv
  have hx := B.exec
  have hb := B.bytes
  have hr := B.returns
  have hta := tl_hta (atoms_spec (ws := tl_w yX11_text cX11_text 5 (some .int)) B.pre)
  have hown : s.vm.findClass RX11 = some m.cls := findClass_of_methodNamed B.named
  have hlocks := B.notSynchronized
  subst hsz
  have hI0 := hI
  generalize hAe : tp_A L s.heap.size = A at hZ ⊢
  have hA : ∀ q : Nat, s.heap.size ≤ q → A q := fun q h => by rw [← hAe]; exact Or.inr h
  have hAL : ∀ q ∈ L, A q := fun q h => by rw [← hAe]; exact Or.inl h
  have hAf : ∀ (H : Heap), s.heap.size ≤ H.size → ∀ q, tp_A L H.size q → A q := fun H h q hq => hq.elim (hAL q) (fun h2 => hA q (Nat.le_trans h h2))
  have hS : va_S A s.heap s.heap [] := va_S.rf
  have hD : va_D A (va_pl L f) := tp_D hL hAL
  have hfr : ∀ b, (K b).1 ∉ ([0, 18, 15, 21, 20, 19, 16, 17, 1, 14, 13] : List Nat) → f b = f b := fun _ _ => rfl
  have hA9 : ∀ q, A q → q ∈ L ∨ s.heap.size ≤ q := fun q h => by rw [← hAe] at h; exact h
  have hmo : ∀ k n w a, tp_r L K k n w a → tp_r L K k n w a := fun _ _ _ _ h => h
  have hnw : ∀ a ∈ L, a ∈ L ∨ (s.heap.size ≤ a ∧ (K a).2.2 = 0) := fun _ h => Or.inl h
  have hl := lv_entry ([.ref o, .int p0]) (n := 5) (Nat.le_of_ble_eq_true rfl)
  rw [lg_entry_eq]
  generalize (lg_sl ([.ref o, .int p0]) ++ List.replicate (5 - (lg_sl ([.ref o, .int p0])).length) Slot.unset).toArray = ls at hl ⊢
  have hl : lv_has ls 5 [(0, .ref o), (1, .int p0)] := hl
  refine lv_aload_n hx hb dX11_text_0 rfl (lv_at hl 0 rfl) ?_
  refine lv_iload_n hx hb dX11_text_1 rfl (lv_at hl 1 rfl) ?_
  obtain ⟨x_2, x_3, x_4, x_5, x_6, x_7, x_8, x_9, x_10, x_11, x_12, x_13, x_14, x_15, x_16, x_17, hf_1, hx_2, hx_3, hx_4, hx_5, hx_6, hx_7, hx_8, hx_9, hx_10, hx_11, hx_12, hx_13, hx_14, hx_15, hx_16, hx_17⟩ := (show tp_o_X L K (0) 0 (Γ (0, 0, 0)) (f o) from hI.at ho)
  refine tl_sq (tq_rV (As := [.int p0]) (rest := []) ⟨hx, hb, hml, hown, hta⟩ (tp_P.pre hK hN hL hU hI hP) (tp_recv hK hP ho.1 hf_1 rfl) lk_X11_182 (t_X11_shelfOf l D cy s.heap.size L K Γ f o p0 ho) rfl rfl ⟨Nat.le_of_ble_eq_true rfl, Nat.le_of_ble_eq_true rfl⟩ rfl hl.1 rfl (Nat.le_of_ble_eq_true rfl) dX11_text_2 ⟨Nat.le_of_ble_eq_true rfl, Nat.le_of_ble_eq_true rfl⟩) (fun r_19 hw_18 => ?_)
  rcases r_19 with _ | b_20
  · refine W.eq (g2 := F0 m 5 ls ([.null])) (by rfl) ?_
    refine lv_astore_nN (lv' := [(2, .null), (0, .ref o), (1, .int p0)]) hx hb dX11_text_5 rfl hl (by decide) rfl (fun ls hl => ?_)
    refine lv_aload_nN hx hb dX11_text_6 rfl (lv_at hl 0 rfl) ?_
    refine lv_ifnullN (tgt := 17) hx hb dX11_text_7 (by decide) ?_
    refine lv_iconst (v := (-1)) hx hb dX11_text_17 (by decide) ?_
    refine W.widen (k := 8) (n := 481) (Nat.le_of_ble_eq_true rfl) (Nat.le_of_ble_eq_true rfl) ?_
    exact W.iret (v := (-1)) hx hb hr (fun t ht hW => ⟨⟨_, (L, K, f), rfl, trivial, by rw [ht]; exact hP, hI, hL, hU, hmo, hnw⟩, hS.F ht⟩) hS.2.2 dX11_text_18
  · obtain ⟨nb_20, hnb_20, hb_20⟩ := hw_18 _ rfl
    have hb_20 : tp_r L K 13 (nb_20) 0 b_20 := hb_20
    refine W.eq (g2 := F0 m 5 ls ([.ref b_20])) (by rfl) ?_
    refine lv_astore_n (lv' := [(2, .ref b_20), (0, .ref o), (1, .int p0)]) hx hb dX11_text_5 rfl hl (by decide) rfl (fun ls hl => ?_)
    refine lv_aload_n hx hb dX11_text_6 rfl (lv_at hl 0 rfl) ?_
    refine lv_ifnull hx hb dX11_text_7 ?_
    refine lv_aload_n hx hb dX11_text_10 rfl (lv_at hl 0 rfl) ?_
    obtain ⟨x_22, x_23, hf_21, hx_22, hx_23⟩ := (show tp_o_TEXTS L K (nb_20) 0 (Γ (13, nb_20, 0)) (f b_20) from hI.at hb_20)
    refine tl_si (tq_rVN hN (As := []) (rest := []) ⟨hx, hb, hml, hown, hta⟩ (tp_P.pre hK hN hL hU hI hP) (tp_recv hK hP hb_20.1 hf_21 rfl) lk_X11_186 (t_X8_isFull l D cy s.heap.size L K Γ f nb_20 b_20 hb_20 (by first | omega | (simp only [Int32.toInt_toInt64]; omega) | decide | assumption)) rfl rfl ⟨Nat.le_of_ble_eq_true rfl, Nat.le_of_ble_eq_true rfl⟩ rfl hl.1 rfl (Nat.le_of_ble_eq_true rfl) dX11_text_11 ⟨Nat.le_of_ble_eq_true rfl, Nat.le_of_ble_eq_true rfl⟩) (fun r_25 hw_24 => ?_)
    have hw_24 : tl_J r_25 (True) := hw_24
    refine lv_if_eq (tgt := 19) hx hb dX11_text_14 (by decide) (fun c_26 => ?_) (fun c_26 => ?_)
    · have c_26 := c_26
      refine lv_aload_n hx hb dX11_text_19 rfl (lv_at hl 1 rfl) ?_
      refine tp_get (cy := cy) (ci := 11) (v := .ref x_8) (C := RX11) (T := TX11) (N := 16) hx hb hta inlX11 hown hK hP ho.1 hf_1 rfl 6 (by decide) (hta _ wk_30) (fun _ h9 => h9) rfl dX11_text_20 ?_
      obtain ⟨x_28, x_29, x_30, x_31, x_32, x_33, x_34, x_35, x_36, hf_27, hx_28, hx_29, hx_30, hx_31, hx_32, hx_33, hx_34, hx_35, hx_36⟩ := (show tp_o_TEXT L K (0) 0 (Γ (18, 0, 0)) (f x_8) from hI.at hx_8)
      refine tq_cv hS (hAf _ hS.1) (tq_rVN hN (As := []) (rest := []) ⟨hx, hb, hml, hown, hta⟩ (tp_P.pre hK hN hL hU hI hP) (tp_recv hK hP hx_8.1 hf_27 rfl) lk_X11_190 (t_X7_wipe l D cy s.heap.size L K Γ f x_8 hx_8) rfl rfl ⟨Nat.le_of_ble_eq_true rfl, Nat.le_of_ble_eq_true rfl⟩ rfl hl.1 rfl (Nat.le_of_ble_eq_true rfl) dX11_text_23 ⟨Nat.le_of_ble_eq_true rfl, Nat.le_of_ble_eq_true rfl⟩) (fun f_39 H locs hw_37 hP hI hc_40 hS => ?_)
      have hD : va_D A (va_pl L f_39) := tp_D hL hAL
      have hfr := tp_fr2 hfr hc_40 (by decide)
      have hf_41 := (tp_un hc_40 ho (by decide)).trans hf_1
      have hf_42 := (tp_un hc_40 hb_20 (by decide)).trans hf_21
      refine lv_aload_n hx hb dX11_text_26 rfl (lv_at hl 1 rfl) ?_
      refine tp_get (cy := cy) (ci := 11) (v := .ref x_7) (C := RX11) (T := TX11) (N := 16) hx hb hta inlX11 hown hK hP ho.1 hf_41 rfl 5 (by decide) (hta _ wk_26) (fun _ h9 => h9) rfl dX11_text_27 ?_
      refine lv_aload_n hx hb dX11_text_30 rfl (lv_at hl 1 rfl) ?_
      refine tp_get (cy := cy) (ci := 11) (v := .ref x_2) (C := RX11) (T := TX11) (N := 16) hx hb hta inlX11 hown hK hP ho.1 hf_41 rfl 0 (by decide) (hta _ wk_15) (fun _ h9 => h9) rfl dX11_text_31 ?_
      refine lv_iload_n hx hb dX11_text_34 rfl (lv_at hl 2 rfl) ?_
      refine lv_aload_n hx hb dX11_text_35 rfl (lv_at hl 1 rfl) ?_
      refine tp_get (cy := cy) (ci := 11) (v := .ref x_8) (C := RX11) (T := TX11) (N := 16) hx hb hta inlX11 hown hK hP ho.1 hf_41 rfl 6 (by decide) (hta _ wk_30) (fun _ h9 => h9) rfl dX11_text_36 ?_
      obtain ⟨x_44, x_45, x_46, x_47, x_48, x_49, hf_43, hx_44, hx_45⟩ := (show tp_o_PARSER L K (0) 0 (Γ (15, 0, 0)) (f_39 x_7) from hI.at hx_7)
      refine tq_ci hS (hAf _ hS.1) (tq_rVN hN (As := [.ref x_2, .int p0, .ref x_8]) (rest := []) ⟨hx, hb, hml, hown, hta⟩ (tp_PS.pre hK hN hL hU hI hP hZ hS (hAf _ hS.1)) (tp_recv hK hP hx_7.1 hf_43 rfl) lk_X11_193 (t_X2_parse l D cy H.size L K Γ f_39 Z x_7 0 x_2 p0 x_8 hx_7 hx_2 hx_8) rfl rfl ⟨Nat.le_of_ble_eq_true rfl, Nat.le_of_ble_eq_true rfl⟩ rfl hl.1 rfl (Nat.le_of_ble_eq_true rfl) dX11_text_39 ⟨Nat.le_of_ble_eq_true rfl, Nat.le_of_ble_eq_true rfl⟩) (fun r_51 f_52 H locs hw_50 hP hI hc_53 hS => ?_)
      have hD : va_D A (va_pl L f_52) := tp_D hL hAL
      have hfr := tp_fr2 hfr hc_53 (by decide)
      have hf_54 := (tp_un hc_53 ho (by decide)).trans hf_41
      have hf_55 := (tp_un hc_53 hb_20 (by decide)).trans hf_42
      refine lv_istore_n (lv' := [(3, .int r_51), (2, .ref b_20), (0, .ref o), (1, .int p0)]) hx hb dX11_text_42 rfl hl (by decide) rfl (fun ls hl => ?_)
      refine lv_aload_n hx hb dX11_text_43 rfl (lv_at hl 2 rfl) ?_
      refine tp_get (cy := cy) (ci := 11) (v := .ref x_2) (C := RX11) (T := TX11) (N := 16) hx hb hta inlX11 hown hK hP ho.1 hf_54 rfl 0 (by decide) (hta _ wk_15) (fun _ h9 => h9) rfl dX11_text_44 ?_
      refine lv_iconst (v := 0) hx hb dX11_text_47 (by decide) ?_
      obtain ⟨x_57, x_58, x_59, x_60, x_61, x_62, x_63, x_64, x_65, hf_56, hx_57, hx_58, hx_59, hx_60, hx_61, hx_62, hx_63, hx_64, hx_65⟩ := (show tp_o_BOOK L K (0) 0 (Γ (1, 0, 0)) (f_52 x_2) from hI.at hx_2)
      have hI9 : tp_I cy L K Γ (va_up f_52 x_2 (.inr (0, [.int x_57, .ref x_58, .ref x_59, .ref x_60, .ref x_61, .ref x_62, .ref x_63, .ref x_64, .int 0]))) := hI.set hx_2 (show tp_o_BOOK L K (0) 0 (Γ (1, 0, 0)) _ from ⟨x_57, x_58, x_59, x_60, x_61, x_62, x_63, x_64, 0, rfl, (show x_57.toInt = (Γ (1, 0, 0)) 0 from by omega), hx_58, hx_59, hx_60, hx_61, hx_62, hx_63, hx_64, (show 0 ≤ (0 : Int) ∧ (0 : Int) ≤ 400 from by omega)⟩)
      have hfr9 : ∀ b, (K b).1 ∉ ([0, 18, 15, 21, 20, 19, 16, 17, 1, 14, 13] : List Nat) → va_up f_52 x_2 (.inr (0, [.int x_57, .ref x_58, .ref x_59, .ref x_60, .ref x_61, .ref x_62, .ref x_63, .ref x_64, .int 0])) b = f b := tp_fr hfr hx_2 (by decide)
      refine tp_putN (cy := cy) (ci := 0) (v := .int 0) (ty := tyX0 8) (C := RX0) (T := TX0) (N := 9) hx hb hta inlX0 tyX0 tyX0_ok nmX0 hown hK hP hD hS hx_2.1 hf_56 rfl 8 (by decide) (va_Nw.use rfl (hN.1 26 _ nk_26)) (fun _ h9 => h9) rfl (tyX0_ok 8 (by decide)) rfl rfl (Nat.le_of_ble_eq_true rfl) dX11_text_48 (fun H locs hP hD hS => ?_)
      have hP : va_P D vwCl (va_pl L (va_up f_52 x_2 (.inr (0, [.int x_57, .ref x_58, .ref x_59, .ref x_60, .ref x_61, .ref x_62, .ref x_63, .ref x_64, .int 0])))) H := hP
      generalize hfe : va_up f_52 x_2 (.inr (0, [.int x_57, .ref x_58, .ref x_59, .ref x_60, .ref x_61, .ref x_62, .ref x_63, .ref x_64, .int 0])) = f_66 at hP hI9 hfr9
      have hD : va_D A (va_pl L f_66) := tp_D hL hAL
      have hf_67 := (show f_66 o = _ from by rw [← hfe, va_up_ne _ _ (tp_ne ho hx_2 (by decide))]).trans hf_54
      have hf_68 := (show f_66 b_20 = _ from by rw [← hfe, va_up_ne _ _ (tp_ne hb_20 hx_2 (by decide))]).trans hf_55
      have hf_69 : f_66 x_2 = .inr (0, [.int x_57, .ref x_58, .ref x_59, .ref x_60, .ref x_61, .ref x_62, .ref x_63, .ref x_64, .int 0]) := by rw [← hfe]; exact va_up_self _ _ _
      clear hfe
      have hI := hI9
      have hfr := hfr9
      clear hI9 hfr9
      refine lv_iload_n hx hb dX11_text_51 rfl (lv_at hl 0 rfl) ?_
      refine lv_if_eq (tgt := 60) hx hb dX11_text_52 (by decide) (fun c_70 => ?_) (fun c_70 => ?_)
      · have c_70 : r_51.toInt = (0 : Int) := tl_eq c_70
        refine lv_aload_n hx hb dX11_text_60 rfl (lv_at hl 1 rfl) ?_
        refine lv_aload_n hx hb dX11_text_61 rfl (lv_at hl 2 rfl) ?_
        refine tp_get (cy := cy) (ci := 11) (v := .ref x_8) (C := RX11) (T := TX11) (N := 16) hx hb hta inlX11 hown hK hP ho.1 hf_67 rfl 6 (by decide) (hta _ wk_30) (fun _ h9 => h9) rfl dX11_text_62 ?_
        refine tq_ci hS (hAf _ hS.1) (tq_rVN hN (As := [.ref x_8]) (rest := []) ⟨hx, hb, hml, hown, hta⟩ (tp_P.pre hK hN hL hU hI hP) (tp_recv hK hP hb_20.1 hf_68 rfl) lk_X11_197 (t_X8_keep l D cy H.size L K Γ f_66 nb_20 b_20 x_8 hb_20 hx_8 (by first | omega | (simp only [Int32.toInt_toInt64]; omega) | decide | assumption)) rfl rfl ⟨Nat.le_of_ble_eq_true rfl, Nat.le_of_ble_eq_true rfl⟩ rfl hl.1 rfl (Nat.le_of_ble_eq_true rfl) dX11_text_65 ⟨Nat.le_of_ble_eq_true rfl, Nat.le_of_ble_eq_true rfl⟩) (fun r_72 f_73 H locs hw_71 hP hI hc_74 hS => ?_)
        have hD : va_D A (va_pl L f_73) := tp_D hL hAL
        have hfr := tp_fr2 hfr hc_74 (by decide)
        have hf_75 := (tp_un hc_74 ho (by decide)).trans hf_67
        have hf_76 := (tp_un hc_74 hx_2 (by decide)).trans hf_69
        refine lv_istore (lv' := [(4, .int r_72), (3, .int r_51), (2, .ref b_20), (0, .ref o), (1, .int p0)]) hx hb dX11_text_68 hl (by decide) rfl (fun ls hl => ?_)
        refine lv_aload_n hx hb dX11_text_70 rfl (lv_at hl 3 rfl) ?_
        refine va_new (ci := 7) (fs := [.int 0, .null, .null, .null, .null, .null, .null, .null, .int 0]) (C := RX7) (T := TX7) (N := 9) hx hb hta inlX7 tyX7 tyX7_ok hown (hta _ wk_27) (hta _ wk_28) (hta _ wk_29) hK hP hD hS hA rfl nf_X7 (Nat.le_of_ble_eq_true rfl) (Nat.le_of_ble_eq_true rfl) dX11_text_71 (fun q_77 H hP hD hS => ?_)
        refine W.widen (k := 1) (n := 9) (Nat.le_of_ble_eq_true rfl) (Nat.le_of_ble_eq_true rfl) ?_
        refine lv_dup hx hb dX11_text_74 rfl ?_
        refine tx_cv _ _ hP hD hS hA (tl_rIN (As := []) (rest := [.ref q_77, .ref o]) ⟨hx, hb, hml, hown, hta⟩ hK hN (tx_Pr hP) (tx_Dr hD) lk_X11_44 (c_X7_init l D cy H.size q_77) rfl rfl ⟨Nat.le_of_ble_eq_true rfl, Nat.le_of_ble_eq_true rfl⟩ rfl hl.1 rfl (Nat.le_of_ble_eq_true rfl) dX11_text_75 ⟨Nat.le_of_ble_eq_true rfl, Nat.le_of_ble_eq_true rfl⟩) (fun u_78 H locs _ hP hD hS => ?_)
        refine W.widen (k := 8) (n := 481) (Nat.le_of_ble_eq_true rfl) (Nat.le_of_ble_eq_true rfl) ?_
        refine tx_go (ns := [(q_77, .inr (7, [.int 0, .ref (u_78.1 0), .ref (u_78.1 1), .ref (u_78.1 2), .ref (u_78.1 3), .ref (u_78.1 4), .ref (u_78.1 5), .ref (u_78.1 6), .int 0]), (18, 0, 0)), ((u_78.1 0), .inl (cy 0, 12, .inl (fun _ => 0)), (20, 12, 0)), ((u_78.1 1), .inl (cy 0, 12, .inl (fun _ => 0)), (19, 12, 0)), ((u_78.1 2), .inl (cy 0, 12, .inl (fun _ => 0)), (19, 12, 0)), ((u_78.1 3), .inl (cy 0, 12, .inl (fun _ => 0)), (20, 12, 0)), ((u_78.1 4), .inl (cy 0, 12, .inl (fun _ => 0)), (20, 12, 0)), ((u_78.1 5), .inl (cy 0, 12, .inl (fun _ => 0)), (20, 12, 0)), ((u_78.1 6), .inl (cy 0, 400, .inl (fun _ => 0)), (21, 400, 0))]) (w9 := 0) hP hD hI hL hU hAL (List.forall_mem_cons.mpr ⟨rfl, (List.forall_mem_cons.mpr ⟨rfl, (List.forall_mem_cons.mpr ⟨rfl, (List.forall_mem_cons.mpr ⟨rfl, (List.forall_mem_cons.mpr ⟨rfl, (List.forall_mem_cons.mpr ⟨rfl, (List.forall_mem_cons.mpr ⟨rfl, (List.forall_mem_cons.mpr ⟨rfl, (fun _ h9 => by cases h9)⟩)⟩)⟩)⟩)⟩)⟩)⟩)⟩) hA9 (fun _ => (List.forall_mem_cons.mpr ⟨(fun _ _ h9 => by cases h9), (List.forall_mem_cons.mpr ⟨(fun _ _ h9 => by cases h9), (List.forall_mem_cons.mpr ⟨(fun _ _ h9 => by cases h9), (List.forall_mem_cons.mpr ⟨(fun _ _ h9 => by cases h9), (List.forall_mem_cons.mpr ⟨(fun _ _ h9 => by cases h9), (List.forall_mem_cons.mpr ⟨(fun _ _ h9 => by cases h9), (List.forall_mem_cons.mpr ⟨(fun _ _ h9 => by cases h9), (List.forall_mem_cons.mpr ⟨(fun _ _ h9 => by cases h9), (fun _ h9 => by cases h9)⟩)⟩)⟩)⟩)⟩)⟩)⟩)⟩)) (fun _ => tx_h2 _ (show (([(18, 0), (20, 12), (19, 12), (19, 12), (20, 12), (20, 12), (20, 12), (21, 400)] : List (Nat × Nat)).filter (fun p => tk_t p.1)).Nodup from by decide)) (fun hr => (List.forall_mem_cons.mpr ⟨⟨0, (u_78.1 0), (u_78.1 1), (u_78.1 2), (u_78.1 3), (u_78.1 4), (u_78.1 5), (u_78.1 6), 0, rfl, (show 0 ≤ (0 : Int32).toInt ∧ (0 : Int32).toInt ≤ ((12 : Nat) : Int) from ⟨by decide, by decide⟩), hr _ (List.mem_of_getElem? (i := 1) rfl), hr _ (List.mem_of_getElem? (i := 2) rfl), hr _ (List.mem_of_getElem? (i := 3) rfl), hr _ (List.mem_of_getElem? (i := 4) rfl), hr _ (List.mem_of_getElem? (i := 5) rfl), hr _ (List.mem_of_getElem? (i := 6) rfl), hr _ (List.mem_of_getElem? (i := 7) rfl), (show 0 ≤ (0 : Int32).toInt ∧ (0 : Int32).toInt ≤ ((400 : Nat) : Int) from ⟨by decide, by decide⟩)⟩, (List.forall_mem_cons.mpr ⟨⟨_, rfl, fun _ _ => by first | trivial | decide⟩, (List.forall_mem_cons.mpr ⟨⟨_, rfl, fun _ _ => by first | trivial | decide⟩, (List.forall_mem_cons.mpr ⟨⟨_, rfl, fun _ _ => by first | trivial | decide⟩, (List.forall_mem_cons.mpr ⟨⟨_, rfl, fun _ _ => by first | trivial | decide⟩, (List.forall_mem_cons.mpr ⟨⟨_, rfl, fun _ _ => by first | trivial | decide⟩, (List.forall_mem_cons.mpr ⟨⟨_, rfl, fun _ _ => by first | trivial | decide⟩, (List.forall_mem_cons.mpr ⟨⟨_, rfl, fun _ _ => by first | trivial | decide⟩, (fun _ h9 => by cases h9)⟩)⟩)⟩)⟩)⟩)⟩)⟩)⟩)) (fun L K f hP hI hL hU hAL hmo hnn hnw hfo => ?_)
        have hfX : f o = .inr (11, [.ref x_2, .ref x_3, .ref x_4, .ref x_5, .ref x_6, .ref x_7, .ref x_8, .ref x_9, .ref x_10, .ref x_11, .ref x_12, .ref x_13, .ref x_14, .ref x_15, .ref x_16, .ref x_17]) := (hfo _ ho.1).trans hf_75
        have hI0 := hI
        have hD : va_D A (va_pl L f) := tp_D hL hAL
        have hAf : ∀ (H : Heap), s.heap.size ≤ H.size → ∀ q, tp_A L H.size q → A q := fun H h q hq => hq.elim (hAL q) (fun h2 => hA q (Nat.le_trans h h2))
        have hfr : ∀ b, (K b).1 ∉ ([0, 18, 15, 21, 20, 19, 16, 17, 1, 14, 13] : List Nat) → f b = f b := fun _ _ => rfl
        have hb_20 := hmo _ _ _ _ hb_20
        have ho := hmo _ _ _ _ ho
        have hx_2 := hmo _ _ _ _ hx_2
        have hx_3 := hmo _ _ _ _ hx_3
        have hx_4 := hmo _ _ _ _ hx_4
        have hx_5 := hmo _ _ _ _ hx_5
        have hx_6 := hmo _ _ _ _ hx_6
        have hx_7 := hmo _ _ _ _ hx_7
        have hx_8 := hmo _ _ _ _ hx_8
        have hx_9 := hmo _ _ _ _ hx_9
        have hx_10 := hmo _ _ _ _ hx_10
        have hx_11 := hmo _ _ _ _ hx_11
        have hx_12 := hmo _ _ _ _ hx_12
        have hx_13 := hmo _ _ _ _ hx_13
        have hx_14 := hmo _ _ _ _ hx_14
        have hx_15 := hmo _ _ _ _ hx_15
        have hx_16 := hmo _ _ _ _ hx_16
        have hx_17 := hmo _ _ _ _ hx_17
        have hq_77 : tp_r L K 18 (0) 0 q_77 := (hnn _ (List.mem_of_getElem? (i := 0) rfl)).1
        have hI9 : tp_I cy L K Γ (va_up f o (.inr (11, [.ref x_2, .ref x_3, .ref x_4, .ref x_5, .ref x_6, .ref x_7, .ref q_77, .ref x_9, .ref x_10, .ref x_11, .ref x_12, .ref x_13, .ref x_14, .ref x_15, .ref x_16, .ref x_17]))) := hI.set ho (show tp_o_X L K (0) 0 (Γ (0, 0, 0)) _ from ⟨x_2, x_3, x_4, x_5, x_6, x_7, q_77, x_9, x_10, x_11, x_12, x_13, x_14, x_15, x_16, x_17, rfl, hx_2, hx_3, hx_4, hx_5, hx_6, hx_7, hq_77, hx_9, hx_10, hx_11, hx_12, hx_13, hx_14, hx_15, hx_16, hx_17⟩)
        have hfr9 : ∀ b, (K b).1 ∉ ([0, 18, 15, 21, 20, 19, 16, 17, 1, 14, 13] : List Nat) → va_up f o (.inr (11, [.ref x_2, .ref x_3, .ref x_4, .ref x_5, .ref x_6, .ref x_7, .ref q_77, .ref x_9, .ref x_10, .ref x_11, .ref x_12, .ref x_13, .ref x_14, .ref x_15, .ref x_16, .ref x_17])) b = f b := tp_fr hfr ho (by decide)
        refine tp_put (cy := cy) (ci := 11) (v := .ref q_77) (ty := tyX11 6) (C := RX11) (T := TX11) (N := 16) hx hb hta inlX11 tyX11 tyX11_ok nmX11 hown hK hP hD hS ho.1 hfX rfl 6 (by decide) (hta _ wk_30) (fun _ h9 => h9) rfl (tyX11_ok 6 (by decide)) rfl rfl (Nat.le_of_ble_eq_true rfl) dX11_text_78 (fun H locs hP hD hS => ?_)
        have hP : va_P D vwCl (va_pl L (va_up f o (.inr (11, [.ref x_2, .ref x_3, .ref x_4, .ref x_5, .ref x_6, .ref x_7, .ref q_77, .ref x_9, .ref x_10, .ref x_11, .ref x_12, .ref x_13, .ref x_14, .ref x_15, .ref x_16, .ref x_17])))) H := hP
        generalize hfe : va_up f o (.inr (11, [.ref x_2, .ref x_3, .ref x_4, .ref x_5, .ref x_6, .ref x_7, .ref q_77, .ref x_9, .ref x_10, .ref x_11, .ref x_12, .ref x_13, .ref x_14, .ref x_15, .ref x_16, .ref x_17])) = f_79 at hP hI9 hfr9
        have hD : va_D A (va_pl L f_79) := tp_D hL hAL
        have hf_80 : f_79 o = .inr (11, [.ref x_2, .ref x_3, .ref x_4, .ref x_5, .ref x_6, .ref x_7, .ref q_77, .ref x_9, .ref x_10, .ref x_11, .ref x_12, .ref x_13, .ref x_14, .ref x_15, .ref x_16, .ref x_17]) := by rw [← hfe]; exact va_up_self _ _ _
        clear hfe
        have hI := hI9
        have hfr := hfr9
        clear hI9 hfr9
        refine lv_iload hx hb dX11_text_81 (lv_at hl 0 rfl) ?_
        exact W.iret (v := r_72) hx hb hr (fun t ht hW => ⟨⟨_, (L, K, f_79), rfl, trivial, by rw [ht]; exact hP, hI, hL, hU, hmo, hnw⟩, hS.F ht⟩) hS.2.2 dX11_text_83
      · have c_70 : ¬ r_51.toInt = (0 : Int) := tl_neq c_70
        refine lv_bipush (v := (-2)) hx hb dX11_text_55 (by decide) ?_
        refine lv_iload_n hx hb dX11_text_57 rfl (lv_at hl 0 rfl) ?_
        refine lv_isub hx hb dX11_text_58 ?_
        refine lv_topi (fun z_81 ez_81 => ?_)
        try have iz_81 : z_81.toInt = (-2 : Int) - r_51.toInt := by rw [ez_81]; exact tl_subN (-2) r_51 rfl rfl (by omega) (by omega)
        refine W.widen (k := 8) (n := 481) (Nat.le_of_ble_eq_true rfl) (Nat.le_of_ble_eq_true rfl) ?_
        exact W.iret (v := z_81) hx hb hr (fun t ht hW => ⟨⟨_, (L, K, f_66), rfl, trivial, by rw [ht]; exact hP, hI, hL, hU, hmo, hnw⟩, hS.F ht⟩) hS.2.2 dX11_text_59
    · have c_26 := hw_24.t c_26
      refine lv_iconst (v := (-1)) hx hb dX11_text_17 (by decide) ?_
      refine W.widen (k := 8) (n := 481) (Nat.le_of_ble_eq_true rfl) (Nat.le_of_ble_eq_true rfl) ?_
      exact W.iret (v := (-1)) hx hb hr (fun t ht hW => ⟨⟨_, (L, K, f), rfl, trivial, by rw [ht]; exact hP, hI, hL, hU, hmo, hnw⟩, hS.F ht⟩) hS.2.2 dX11_text_18

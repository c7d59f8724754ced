theorem dX11_isBar_0 : decode cX11_isBar 0 = .ok (.iload_n 0, 1) := by decide +kernel
theorem dX11_isBar_1 : decode cX11_isBar 1 = .ok (.ldc_w 494, 3) := by decide +kernel
theorem dX11_isBar_4 : decode cX11_isBar 4 = .ok (.ldc_w 495, 3) := by decide +kernel
theorem dX11_isBar_7 : decode cX11_isBar 7 = .ok (.invokestatic 105, 3) := by decide +kernel
theorem dX11_isBar_10 : decode cX11_isBar 10 = .ok (.ireturn, 1) := by decide +kernel
theorem dX11_isColour_0 : decode cX11_isColour 0 = .ok (.iload_n 0, 1) := by decide +kernel
theorem dX11_isColour_1 : decode cX11_isColour 1 = .ok (.iconst 0, 1) := by decide +kernel
theorem dX11_isColour_2 : decode cX11_isColour 2 = .ok (.sipush 299, 3) := by decide +kernel
theorem dX11_isColour_5 : decode cX11_isColour 5 = .ok (.invokestatic 105, 3) := by decide +kernel
theorem dX11_isColour_8 : decode cX11_isColour 8 = .ok (.ireturn, 1) := by decide +kernel
theorem dX11_isGlass_0 : decode cX11_isGlass 0 = .ok (.iload_n 0, 1) := by decide +kernel
theorem dX11_isGlass_1 : decode cX11_isGlass 1 = .ok (.iconst 0, 1) := by decide +kernel
theorem dX11_isGlass_2 : decode cX11_isGlass 2 = .ok (.iconst 3, 1) := by decide +kernel
theorem dX11_isGlass_3 : decode cX11_isGlass 3 = .ok (.invokestatic 105, 3) := by decide +kernel
theorem dX11_isGlass_6 : decode cX11_isGlass 6 = .ok (.ireturn, 1) := by decide +kernel
theorem dX11_isIn_0 : decode cX11_isIn 0 = .ok (.iload_n 0, 1) := by decide +kernel
theorem dX11_isIn_1 : decode cX11_isIn 1 = .ok (.iload_n 1, 1) := by decide +kernel
theorem dX11_isIn_2 : decode cX11_isIn 2 = .ok (.if_icmp .lt 12, 3) := by decide +kernel
theorem dX11_isIn_5 : decode cX11_isIn 5 = .ok (.iload_n 0, 1) := by decide +kernel
theorem dX11_isIn_6 : decode cX11_isIn 6 = .ok (.iload_n 2, 1) := by decide +kernel
theorem dX11_isIn_7 : decode cX11_isIn 7 = .ok (.if_icmp .gt 7, 3) := by decide +kernel
theorem dX11_isIn_10 : decode cX11_isIn 10 = .ok (.iconst 1, 1) := by decide +kernel
theorem dX11_isIn_11 : decode cX11_isIn 11 = .ok (.goto 4, 3) := by decide +kernel
theorem dX11_isIn_14 : decode cX11_isIn 14 = .ok (.iconst 0, 1) := by decide +kernel
theorem dX11_isIn_15 : decode cX11_isIn 15 = .ok (.ireturn, 1) := by decide +kernel
theorem dX11_isNeed_0 : decode cX11_isNeed 0 = .ok (.iload_n 0, 1) := by decide +kernel
theorem dX11_isNeed_1 : decode cX11_isNeed 1 = .ok (.iconst 0, 1) := by decide +kernel
theorem dX11_isNeed_2 : decode cX11_isNeed 2 = .ok (.ldc_w 496, 3) := by decide +kernel
theorem dX11_isNeed_5 : decode cX11_isNeed 5 = .ok (.invokestatic 105, 3) := by decide +kernel
theorem dX11_isNeed_8 : decode cX11_isNeed 8 = .ok (.ireturn, 1) := by decide +kernel
theorem dX11_isSpan_0 : decode cX11_isSpan 0 = .ok (.iload_n 0, 1) := by decide +kernel
theorem dX11_isSpan_1 : decode cX11_isSpan 1 = .ok (.invokestatic 125, 3) := by decide +kernel
theorem dX11_isSpan_4 : decode cX11_isSpan 4 = .ok (.ifCond .eq 19, 3) := by decide +kernel
theorem dX11_isSpan_7 : decode cX11_isSpan 7 = .ok (.iload_n 1, 1) := by decide +kernel
theorem dX11_isSpan_8 : decode cX11_isSpan 8 = .ok (.invokestatic 125, 3) := by decide +kernel
theorem dX11_isSpan_11 : decode cX11_isSpan 11 = .ok (.ifCond .eq 12, 3) := by decide +kernel
theorem dX11_isSpan_14 : decode cX11_isSpan 14 = .ok (.iload_n 0, 1) := by decide +kernel
theorem dX11_isSpan_15 : decode cX11_isSpan 15 = .ok (.iload_n 1, 1) := by decide +kernel
theorem dX11_isSpan_16 : decode cX11_isSpan 16 = .ok (.if_icmp .gt 7, 3) := by decide +kernel
theorem dX11_isSpan_19 : decode cX11_isSpan 19 = .ok (.iconst 1, 1) := by decide +kernel
theorem dX11_isSpan_20 : decode cX11_isSpan 20 = .ok (.goto 4, 3) := by decide +kernel
theorem dX11_isSpan_23 : decode cX11_isSpan 23 = .ok (.iconst 0, 1) := by decide +kernel
theorem dX11_isSpan_24 : decode cX11_isSpan 24 = .ok (.ireturn, 1) := by decide +kernel
theorem dX11_isStuff_0 : decode cX11_isStuff 0 = .ok (.iload_n 0, 1) := by decide +kernel
theorem dX11_isStuff_1 : decode cX11_isStuff 1 = .ok (.iconst 0, 1) := by decide +kernel
theorem dX11_isStuff_2 : decode cX11_isStuff 2 = .ok (.bipush 11, 2) := by decide +kernel
theorem dX11_isStuff_4 : decode cX11_isStuff 4 = .ok (.invokestatic 105, 3) := by decide +kernel
theorem dX11_isStuff_7 : decode cX11_isStuff 7 = .ok (.ireturn, 1) := by decide +kernel
theorem dX11_isWeek_0 : decode cX11_isWeek 0 = .ok (.iload_n 0, 1) := by decide +kernel
theorem dX11_isWeek_1 : decode cX11_isWeek 1 = .ok (.iconst 0, 1) := by decide +kernel
theorem dX11_isWeek_2 : decode cX11_isWeek 2 = .ok (.sipush 399, 3) := by decide +kernel
theorem dX11_isWeek_5 : decode cX11_isWeek 5 = .ok (.invokestatic 105, 3) := by decide +kernel
theorem dX11_isWeek_8 : decode cX11_isWeek 8 = .ok (.ireturn, 1) := by decide +kernel
theorem dX12_in_0 : decode cX12_in 0 = .ok (.lload_n 0, 1) := by decide +kernel
theorem dX12_in_1 : decode cX12_in 1 = .ok (.lload_n 2, 1) := by decide +kernel
theorem dX12_in_2 : decode cX12_in 2 = .ok (.lcmp, 1) := by decide +kernel
theorem dX12_in_3 : decode cX12_in 3 = .ok (.ifCond .lt 14, 3) := by decide +kernel
theorem dX12_in_6 : decode cX12_in 6 = .ok (.lload_n 0, 1) := by decide +kernel
theorem dX12_in_7 : decode cX12_in 7 = .ok (.lload 4, 2) := by decide +kernel
theorem dX12_in_9 : decode cX12_in 9 = .ok (.lcmp, 1) := by decide +kernel
theorem dX12_in_10 : decode cX12_in 10 = .ok (.ifCond .gt 7, 3) := by decide +kernel
theorem dX12_in_13 : decode cX12_in 13 = .ok (.iconst 1, 1) := by decide +kernel
theorem dX12_in_14 : decode cX12_in 14 = .ok (.goto 4, 3) := by decide +kernel
theorem dX12_in_17 : decode cX12_in 17 = .ok (.iconst 0, 1) := by decide +kernel
theorem dX12_in_18 : decode cX12_in 18 = .ok (.ireturn, 1) := by decide +kernel

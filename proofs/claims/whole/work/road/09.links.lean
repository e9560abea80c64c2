theorem uw_0 : ∀ w ∈ u_ws RX0 TX0 5, w ∈ lw_good := by decide +kernel
theorem uw_1 : ∀ w ∈ u_ws RX1 TX1 8, w ∈ lw_good := by decide +kernel
theorem uw_2 : ∀ w ∈ u_ws RX2 TX2 10, w ∈ lw_good := by decide +kernel
theorem uw_3 : ∀ w ∈ u_ws RX3 TX3 5, w ∈ lw_good := by decide +kernel
theorem uw_4 : ∀ w ∈ u_ws RX4 TX4 4, w ∈ lw_good := by decide +kernel
theorem uw_5 : ∀ w ∈ u_ws RX5 TX5 4, w ∈ lw_good := by decide +kernel
theorem uw_6 : ∀ w ∈ u_ws RX6 TX6 3, w ∈ lw_good := by decide +kernel
theorem uw_7 : ∀ w ∈ u_ws RX7 TX7 8, w ∈ lw_good := by decide +kernel
theorem uw_8 : ∀ w ∈ u_ws RX8 TX8 8, w ∈ lw_good := by decide +kernel
theorem uw_9 : ∀ w ∈ u_ws RX9 TX9 11, w ∈ lw_good := by decide +kernel
theorem uw_10 : ∀ w ∈ u_ws RX10 TX10 48, w ∈ lw_good := by decide +kernel
theorem fl_X0_15 : fk_ok RX0 15 0 1 := ⟨RX0, TX0, 5, rfl, by decide, rfl, uw_0, Or.inl (good_in (List.mem_of_getElem? (i := 222) (by decide +kernel)) rfl)⟩
theorem fl_X0_18 : fk_ok RX0 18 0 2 := ⟨RX0, TX0, 5, rfl, by decide, rfl, uw_0, Or.inl (good_in (List.mem_of_getElem? (i := 223) (by decide +kernel)) rfl)⟩
theorem fl_X0_21 : fk_ok RX0 21 0 3 := ⟨RX0, TX0, 5, rfl, by decide, rfl, uw_0, Or.inl (good_in (List.mem_of_getElem? (i := 224) (by decide +kernel)) rfl)⟩
theorem fl_X0_25 : fk_ok RX0 25 0 4 := ⟨RX0, TX0, 5, rfl, by decide, rfl, uw_0, Or.inl (good_in (List.mem_of_getElem? (i := 226) (by decide +kernel)) rfl)⟩
theorem fl_X0_28 : fk_ok RX0 28 7 5 := ⟨RX7, TX7, 8, rfl, by decide, rfl, uw_7, Or.inr ⟨"OneManDesk", nest_in (List.mem_of_getElem? (i := 286) (by decide +kernel)) rfl⟩⟩
theorem fl_X0_31 : fk_ok RX0 31 7 1 := ⟨RX7, TX7, 8, rfl, by decide, rfl, uw_7, Or.inr ⟨"OneManDesk", nest_in (List.mem_of_getElem? (i := 276) (by decide +kernel)) rfl⟩⟩
theorem fl_X0_34 : fk_ok RX0 34 7 2 := ⟨RX7, TX7, 8, rfl, by decide, rfl, uw_7, Or.inr ⟨"OneManDesk", nest_in (List.mem_of_getElem? (i := 280) (by decide +kernel)) rfl⟩⟩
theorem fl_X0_37 : fk_ok RX0 37 7 3 := ⟨RX7, TX7, 8, rfl, by decide, rfl, uw_7, Or.inr ⟨"OneManDesk", nest_in (List.mem_of_getElem? (i := 282) (by decide +kernel)) rfl⟩⟩
theorem fl_X0_9 : fk_ok RX0 9 0 0 := ⟨RX0, TX0, 5, rfl, by decide, rfl, uw_0, Or.inl (good_in (List.mem_of_getElem? (i := 221) (by decide +kernel)) rfl)⟩
theorem fl_X1_15 : fk_ok RX1 15 1 6 := ⟨RX1, TX1, 8, rfl, by decide, rfl, uw_1, Or.inl (good_in (List.mem_of_getElem? (i := 171) (by decide +kernel)) rfl)⟩
theorem fl_X1_18 : fk_ok RX1 18 1 5 := ⟨RX1, TX1, 8, rfl, by decide, rfl, uw_1, Or.inl (good_in (List.mem_of_getElem? (i := 170) (by decide +kernel)) rfl)⟩
theorem fl_X1_22 : fk_ok RX1 22 1 0 := ⟨RX1, TX1, 8, rfl, by decide, rfl, uw_1, Or.inl (good_in (List.mem_of_getElem? (i := 155) (by decide +kernel)) rfl)⟩
theorem fl_X1_25 : fk_ok RX1 25 1 1 := ⟨RX1, TX1, 8, rfl, by decide, rfl, uw_1, Or.inl (good_in (List.mem_of_getElem? (i := 159) (by decide +kernel)) rfl)⟩
theorem fl_X1_28 : fk_ok RX1 28 1 2 := ⟨RX1, TX1, 8, rfl, by decide, rfl, uw_1, Or.inl (good_in (List.mem_of_getElem? (i := 161) (by decide +kernel)) rfl)⟩
theorem fl_X1_31 : fk_ok RX1 31 1 3 := ⟨RX1, TX1, 8, rfl, by decide, rfl, uw_1, Or.inl (good_in (List.mem_of_getElem? (i := 162) (by decide +kernel)) rfl)⟩
theorem fl_X1_34 : fk_ok RX1 34 1 4 := ⟨RX1, TX1, 8, rfl, by decide, rfl, uw_1, Or.inl (good_in (List.mem_of_getElem? (i := 166) (by decide +kernel)) rfl)⟩
theorem fl_X1_9 : fk_ok RX1 9 1 7 := ⟨RX1, TX1, 8, rfl, by decide, rfl, uw_1, Or.inl (good_in (List.mem_of_getElem? (i := 172) (by decide +kernel)) rfl)⟩
theorem fl_X2_101 : fk_ok RX2 101 6 1 := ⟨RX6, TX6, 3, rfl, by decide, rfl, uw_6, Or.inr ⟨"OneManDesk", nest_in (List.mem_of_getElem? (i := 317) (by decide +kernel)) rfl⟩⟩
theorem fl_X2_107 : fk_ok RX2 107 4 2 := ⟨RX4, TX4, 4, rfl, by decide, rfl, uw_4, Or.inr ⟨"OneManDesk", nest_in (List.mem_of_getElem? (i := 202) (by decide +kernel)) rfl⟩⟩
theorem fl_X2_122 : fk_ok RX2 122 4 3 := ⟨RX4, TX4, 4, rfl, by decide, rfl, uw_4, Or.inr ⟨"OneManDesk", nest_in (List.mem_of_getElem? (i := 204) (by decide +kernel)) rfl⟩⟩
theorem fl_X2_126 : fk_ok RX2 126 1 3 := ⟨RX1, TX1, 8, rfl, by decide, rfl, uw_1, Or.inr ⟨"OneManDesk", nest_in (List.mem_of_getElem? (i := 164) (by decide +kernel)) rfl⟩⟩
theorem fl_X2_130 : fk_ok RX2 130 1 0 := ⟨RX1, TX1, 8, rfl, by decide, rfl, uw_1, Or.inr ⟨"OneManDesk", nest_in (List.mem_of_getElem? (i := 157) (by decide +kernel)) rfl⟩⟩
theorem fl_X2_140 : fk_ok RX2 140 1 4 := ⟨RX1, TX1, 8, rfl, by decide, rfl, uw_1, Or.inr ⟨"OneManDesk", nest_in (List.mem_of_getElem? (i := 168) (by decide +kernel)) rfl⟩⟩
theorem fl_X2_15 : fk_ok RX2 15 2 4 := ⟨RX2, TX2, 10, rfl, by decide, rfl, uw_2, Or.inl (good_in (List.mem_of_getElem? (i := 341) (by decide +kernel)) rfl)⟩
theorem fl_X2_18 : fk_ok RX2 18 2 5 := ⟨RX2, TX2, 10, rfl, by decide, rfl, uw_2, Or.inl (good_in (List.mem_of_getElem? (i := 343) (by decide +kernel)) rfl)⟩
theorem fl_X2_21 : fk_ok RX2 21 2 6 := ⟨RX2, TX2, 10, rfl, by decide, rfl, uw_2, Or.inl (good_in (List.mem_of_getElem? (i := 344) (by decide +kernel)) rfl)⟩
theorem fl_X2_24 : fk_ok RX2 24 2 7 := ⟨RX2, TX2, 10, rfl, by decide, rfl, uw_2, Or.inl (good_in (List.mem_of_getElem? (i := 345) (by decide +kernel)) rfl)⟩
theorem fl_X2_27 : fk_ok RX2 27 2 8 := ⟨RX2, TX2, 10, rfl, by decide, rfl, uw_2, Or.inl (good_in (List.mem_of_getElem? (i := 346) (by decide +kernel)) rfl)⟩
theorem fl_X2_30 : fk_ok RX2 30 2 9 := ⟨RX2, TX2, 10, rfl, by decide, rfl, uw_2, Or.inl (good_in (List.mem_of_getElem? (i := 347) (by decide +kernel)) rfl)⟩
theorem fl_X2_34 : fk_ok RX2 34 2 0 := ⟨RX2, TX2, 10, rfl, by decide, rfl, uw_2, Or.inl (good_in (List.mem_of_getElem? (i := 336) (by decide +kernel)) rfl)⟩
theorem fl_X2_38 : fk_ok RX2 38 2 1 := ⟨RX2, TX2, 10, rfl, by decide, rfl, uw_2, Or.inl (good_in (List.mem_of_getElem? (i := 337) (by decide +kernel)) rfl)⟩
theorem fl_X2_42 : fk_ok RX2 42 2 2 := ⟨RX2, TX2, 10, rfl, by decide, rfl, uw_2, Or.inl (good_in (List.mem_of_getElem? (i := 338) (by decide +kernel)) rfl)⟩
theorem fl_X2_62 : fk_ok RX2 62 1 7 := ⟨RX1, TX1, 8, rfl, by decide, rfl, uw_1, Or.inr ⟨"OneManDesk", nest_in (List.mem_of_getElem? (i := 173) (by decide +kernel)) rfl⟩⟩
theorem fl_X2_84 : fk_ok RX2 84 6 2 := ⟨RX6, TX6, 3, rfl, by decide, rfl, uw_6, Or.inr ⟨"OneManDesk", nest_in (List.mem_of_getElem? (i := 320) (by decide +kernel)) rfl⟩⟩
theorem fl_X2_87 : fk_ok RX2 87 6 0 := ⟨RX6, TX6, 3, rfl, by decide, rfl, uw_6, Or.inr ⟨"OneManDesk", nest_in (List.mem_of_getElem? (i := 314) (by decide +kernel)) rfl⟩⟩
theorem fl_X2_9 : fk_ok RX2 9 2 3 := ⟨RX2, TX2, 10, rfl, by decide, rfl, uw_2, Or.inl (good_in (List.mem_of_getElem? (i := 339) (by decide +kernel)) rfl)⟩
theorem fl_X3_18 : fk_ok RX3 18 3 0 := ⟨RX3, TX3, 5, rfl, by decide, rfl, uw_3, Or.inl (good_in (List.mem_of_getElem? (i := 249) (by decide +kernel)) rfl)⟩
theorem fl_X3_23 : fk_ok RX3 23 3 1 := ⟨RX3, TX3, 5, rfl, by decide, rfl, uw_3, Or.inl (good_in (List.mem_of_getElem? (i := 252) (by decide +kernel)) rfl)⟩
theorem fl_X3_26 : fk_ok RX3 26 3 2 := ⟨RX3, TX3, 5, rfl, by decide, rfl, uw_3, Or.inl (good_in (List.mem_of_getElem? (i := 253) (by decide +kernel)) rfl)⟩
theorem fl_X3_29 : fk_ok RX3 29 3 3 := ⟨RX3, TX3, 5, rfl, by decide, rfl, uw_3, Or.inl (good_in (List.mem_of_getElem? (i := 254) (by decide +kernel)) rfl)⟩
theorem fl_X3_32 : fk_ok RX3 32 3 4 := ⟨RX3, TX3, 5, rfl, by decide, rfl, uw_3, Or.inl (good_in (List.mem_of_getElem? (i := 255) (by decide +kernel)) rfl)⟩
theorem fl_X3_42 : fk_ok RX3 42 7 5 := ⟨RX7, TX7, 8, rfl, by decide, rfl, uw_7, Or.inr ⟨"OneManDesk", nest_in (List.mem_of_getElem? (i := 287) (by decide +kernel)) rfl⟩⟩
theorem fl_X3_47 : fk_ok RX3 47 7 1 := ⟨RX7, TX7, 8, rfl, by decide, rfl, uw_7, Or.inr ⟨"OneManDesk", nest_in (List.mem_of_getElem? (i := 277) (by decide +kernel)) rfl⟩⟩
theorem fl_X3_50 : fk_ok RX3 50 7 2 := ⟨RX7, TX7, 8, rfl, by decide, rfl, uw_7, Or.inr ⟨"OneManDesk", nest_in (List.mem_of_getElem? (i := 279) (by decide +kernel)) rfl⟩⟩
theorem fl_X4_106 : fk_ok RX4 106 6 2 := ⟨RX6, TX6, 3, rfl, by decide, rfl, uw_6, Or.inr ⟨"OneManDesk", nest_in (List.mem_of_getElem? (i := 321) (by decide +kernel)) rfl⟩⟩
theorem fl_X4_109 : fk_ok RX4 109 6 0 := ⟨RX6, TX6, 3, rfl, by decide, rfl, uw_6, Or.inr ⟨"OneManDesk", nest_in (List.mem_of_getElem? (i := 315) (by decide +kernel)) rfl⟩⟩
theorem fl_X4_110 : fk_ok RX4 110 6 1 := ⟨RX6, TX6, 3, rfl, by decide, rfl, uw_6, Or.inr ⟨"OneManDesk", nest_in (List.mem_of_getElem? (i := 318) (by decide +kernel)) rfl⟩⟩
theorem fl_X4_15 : fk_ok RX4 15 4 3 := ⟨RX4, TX4, 4, rfl, by decide, rfl, uw_4, Or.inl (good_in (List.mem_of_getElem? (i := 203) (by decide +kernel)) rfl)⟩
theorem fl_X4_18 : fk_ok RX4 18 4 0 := ⟨RX4, TX4, 4, rfl, by decide, rfl, uw_4, Or.inl (good_in (List.mem_of_getElem? (i := 199) (by decide +kernel)) rfl)⟩
theorem fl_X4_22 : fk_ok RX4 22 4 1 := ⟨RX4, TX4, 4, rfl, by decide, rfl, uw_4, Or.inl (good_in (List.mem_of_getElem? (i := 200) (by decide +kernel)) rfl)⟩
theorem fl_X4_32 : fk_ok RX4 32 1 3 := ⟨RX1, TX1, 8, rfl, by decide, rfl, uw_1, Or.inr ⟨"OneManDesk", nest_in (List.mem_of_getElem? (i := 163) (by decide +kernel)) rfl⟩⟩
theorem fl_X4_46 : fk_ok RX4 46 1 4 := ⟨RX1, TX1, 8, rfl, by decide, rfl, uw_1, Or.inr ⟨"OneManDesk", nest_in (List.mem_of_getElem? (i := 167) (by decide +kernel)) rfl⟩⟩
theorem fl_X4_49 : fk_ok RX4 49 3 0 := ⟨RX3, TX3, 5, rfl, by decide, rfl, uw_3, Or.inr ⟨"OneManDesk", nest_in (List.mem_of_getElem? (i := 250) (by decide +kernel)) rfl⟩⟩
theorem fl_X4_61 : fk_ok RX4 61 1 7 := ⟨RX1, TX1, 8, rfl, by decide, rfl, uw_1, Or.inr ⟨"OneManDesk", nest_in (List.mem_of_getElem? (i := 174) (by decide +kernel)) rfl⟩⟩
theorem fl_X4_65 : fk_ok RX4 65 1 0 := ⟨RX1, TX1, 8, rfl, by decide, rfl, uw_1, Or.inr ⟨"OneManDesk", nest_in (List.mem_of_getElem? (i := 156) (by decide +kernel)) rfl⟩⟩
theorem fl_X4_9 : fk_ok RX4 9 4 2 := ⟨RX4, TX4, 4, rfl, by decide, rfl, uw_4, Or.inl (good_in (List.mem_of_getElem? (i := 201) (by decide +kernel)) rfl)⟩
theorem fl_X5_15 : fk_ok RX5 15 5 1 := ⟨RX5, TX5, 4, rfl, by decide, rfl, uw_5, Or.inl (good_in (List.mem_of_getElem? (i := 376) (by decide +kernel)) rfl)⟩
theorem fl_X5_18 : fk_ok RX5 18 5 2 := ⟨RX5, TX5, 4, rfl, by decide, rfl, uw_5, Or.inl (good_in (List.mem_of_getElem? (i := 377) (by decide +kernel)) rfl)⟩
theorem fl_X5_21 : fk_ok RX5 21 5 3 := ⟨RX5, TX5, 4, rfl, by decide, rfl, uw_5, Or.inl (good_in (List.mem_of_getElem? (i := 378) (by decide +kernel)) rfl)⟩
theorem fl_X5_9 : fk_ok RX5 9 5 0 := ⟨RX5, TX5, 4, rfl, by decide, rfl, uw_5, Or.inl (good_in (List.mem_of_getElem? (i := 375) (by decide +kernel)) rfl)⟩
theorem fl_X6_15 : fk_ok RX6 15 6 1 := ⟨RX6, TX6, 3, rfl, by decide, rfl, uw_6, Or.inl (good_in (List.mem_of_getElem? (i := 316) (by decide +kernel)) rfl)⟩
theorem fl_X6_18 : fk_ok RX6 18 6 2 := ⟨RX6, TX6, 3, rfl, by decide, rfl, uw_6, Or.inl (good_in (List.mem_of_getElem? (i := 319) (by decide +kernel)) rfl)⟩
theorem fl_X6_9 : fk_ok RX6 9 6 0 := ⟨RX6, TX6, 3, rfl, by decide, rfl, uw_6, Or.inl (good_in (List.mem_of_getElem? (i := 313) (by decide +kernel)) rfl)⟩
theorem fl_X7_15 : fk_ok RX7 15 7 1 := ⟨RX7, TX7, 8, rfl, by decide, rfl, uw_7, Or.inl (good_in (List.mem_of_getElem? (i := 275) (by decide +kernel)) rfl)⟩
theorem fl_X7_18 : fk_ok RX7 18 7 2 := ⟨RX7, TX7, 8, rfl, by decide, rfl, uw_7, Or.inl (good_in (List.mem_of_getElem? (i := 278) (by decide +kernel)) rfl)⟩
theorem fl_X7_21 : fk_ok RX7 21 7 3 := ⟨RX7, TX7, 8, rfl, by decide, rfl, uw_7, Or.inl (good_in (List.mem_of_getElem? (i := 281) (by decide +kernel)) rfl)⟩
theorem fl_X7_24 : fk_ok RX7 24 7 4 := ⟨RX7, TX7, 8, rfl, by decide, rfl, uw_7, Or.inl (good_in (List.mem_of_getElem? (i := 283) (by decide +kernel)) rfl)⟩
theorem fl_X7_28 : fk_ok RX7 28 7 5 := ⟨RX7, TX7, 8, rfl, by decide, rfl, uw_7, Or.inl (good_in (List.mem_of_getElem? (i := 285) (by decide +kernel)) rfl)⟩
theorem fl_X7_31 : fk_ok RX7 31 7 6 := ⟨RX7, TX7, 8, rfl, by decide, rfl, uw_7, Or.inl (good_in (List.mem_of_getElem? (i := 288) (by decide +kernel)) rfl)⟩
theorem fl_X7_34 : fk_ok RX7 34 7 7 := ⟨RX7, TX7, 8, rfl, by decide, rfl, uw_7, Or.inl (good_in (List.mem_of_getElem? (i := 289) (by decide +kernel)) rfl)⟩
theorem fl_X7_9 : fk_ok RX7 9 7 0 := ⟨RX7, TX7, 8, rfl, by decide, rfl, uw_7, Or.inl (good_in (List.mem_of_getElem? (i := 274) (by decide +kernel)) rfl)⟩
theorem fl_X8_15 : fk_ok RX8 15 8 1 := ⟨RX8, TX8, 8, rfl, by decide, rfl, uw_8, Or.inl (good_in (List.mem_of_getElem? (i := 113) (by decide +kernel)) rfl)⟩
theorem fl_X8_18 : fk_ok RX8 18 8 2 := ⟨RX8, TX8, 8, rfl, by decide, rfl, uw_8, Or.inl (good_in (List.mem_of_getElem? (i := 114) (by decide +kernel)) rfl)⟩
theorem fl_X8_21 : fk_ok RX8 21 8 3 := ⟨RX8, TX8, 8, rfl, by decide, rfl, uw_8, Or.inl (good_in (List.mem_of_getElem? (i := 115) (by decide +kernel)) rfl)⟩
theorem fl_X8_24 : fk_ok RX8 24 8 4 := ⟨RX8, TX8, 8, rfl, by decide, rfl, uw_8, Or.inl (good_in (List.mem_of_getElem? (i := 116) (by decide +kernel)) rfl)⟩
theorem fl_X8_27 : fk_ok RX8 27 8 5 := ⟨RX8, TX8, 8, rfl, by decide, rfl, uw_8, Or.inl (good_in (List.mem_of_getElem? (i := 117) (by decide +kernel)) rfl)⟩
theorem fl_X8_30 : fk_ok RX8 30 8 6 := ⟨RX8, TX8, 8, rfl, by decide, rfl, uw_8, Or.inl (good_in (List.mem_of_getElem? (i := 118) (by decide +kernel)) rfl)⟩
theorem fl_X8_34 : fk_ok RX8 34 8 7 := ⟨RX8, TX8, 8, rfl, by decide, rfl, uw_8, Or.inl (good_in (List.mem_of_getElem? (i := 119) (by decide +kernel)) rfl)⟩
theorem fl_X8_9 : fk_ok RX8 9 8 0 := ⟨RX8, TX8, 8, rfl, by decide, rfl, uw_8, Or.inl (good_in (List.mem_of_getElem? (i := 111) (by decide +kernel)) rfl)⟩
theorem fl_X9_118 : fk_ok RX9 118 0 3 := ⟨RX0, TX0, 5, rfl, by decide, rfl, uw_0, Or.inr ⟨"OneManDesk", nest_in (List.mem_of_getElem? (i := 225) (by decide +kernel)) rfl⟩⟩
theorem fl_X9_159 : fk_ok RX9 159 1 7 := ⟨RX1, TX1, 8, rfl, by decide, rfl, uw_1, Or.inr ⟨"OneManDesk", nest_in (List.mem_of_getElem? (i := 175) (by decide +kernel)) rfl⟩⟩
theorem fl_X9_162 : fk_ok RX9 162 1 3 := ⟨RX1, TX1, 8, rfl, by decide, rfl, uw_1, Or.inr ⟨"OneManDesk", nest_in (List.mem_of_getElem? (i := 165) (by decide +kernel)) rfl⟩⟩
theorem fl_X9_165 : fk_ok RX9 165 1 4 := ⟨RX1, TX1, 8, rfl, by decide, rfl, uw_1, Or.inr ⟨"OneManDesk", nest_in (List.mem_of_getElem? (i := 169) (by decide +kernel)) rfl⟩⟩
theorem fl_X9_174 : fk_ok RX9 174 1 0 := ⟨RX1, TX1, 8, rfl, by decide, rfl, uw_1, Or.inr ⟨"OneManDesk", nest_in (List.mem_of_getElem? (i := 158) (by decide +kernel)) rfl⟩⟩
theorem fl_X9_183 : fk_ok RX9 183 1 1 := ⟨RX1, TX1, 8, rfl, by decide, rfl, uw_1, Or.inr ⟨"OneManDesk", nest_in (List.mem_of_getElem? (i := 160) (by decide +kernel)) rfl⟩⟩
theorem fl_X9_189 : fk_ok RX9 189 8 7 := ⟨RX8, TX8, 8, rfl, by decide, rfl, uw_8, Or.inr ⟨"OneManDesk", nest_in (List.mem_of_getElem? (i := 120) (by decide +kernel)) rfl⟩⟩
theorem fl_X9_207 : fk_ok RX9 207 3 0 := ⟨RX3, TX3, 5, rfl, by decide, rfl, uw_3, Or.inr ⟨"OneManDesk", nest_in (List.mem_of_getElem? (i := 251) (by decide +kernel)) rfl⟩⟩
theorem fl_X9_242 : fk_ok RX9 242 2 3 := ⟨RX2, TX2, 10, rfl, by decide, rfl, uw_2, Or.inr ⟨"OneManDesk", nest_in (List.mem_of_getElem? (i := 340) (by decide +kernel)) rfl⟩⟩
theorem fl_X9_245 : fk_ok RX9 245 2 4 := ⟨RX2, TX2, 10, rfl, by decide, rfl, uw_2, Or.inr ⟨"OneManDesk", nest_in (List.mem_of_getElem? (i := 342) (by decide +kernel)) rfl⟩⟩
theorem fl_X9_270 : fk_ok RX9 270 7 4 := ⟨RX7, TX7, 8, rfl, by decide, rfl, uw_7, Or.inr ⟨"OneManDesk", nest_in (List.mem_of_getElem? (i := 284) (by decide +kernel)) rfl⟩⟩
theorem fl_X9_273 : fk_ok RX9 273 6 2 := ⟨RX6, TX6, 3, rfl, by decide, rfl, uw_6, Or.inr ⟨"OneManDesk", nest_in (List.mem_of_getElem? (i := 322) (by decide +kernel)) rfl⟩⟩
theorem fl_X9_274 : fk_ok RX9 274 5 3 := ⟨RX5, TX5, 4, rfl, by decide, rfl, uw_5, Or.inr ⟨"OneManDesk", nest_in (List.mem_of_getElem? (i := 379) (by decide +kernel)) rfl⟩⟩
theorem fl_X9_275 : fk_ok RX9 275 3 4 := ⟨RX3, TX3, 5, rfl, by decide, rfl, uw_3, Or.inr ⟨"OneManDesk", nest_in (List.mem_of_getElem? (i := 256) (by decide +kernel)) rfl⟩⟩
theorem fl_X9_37 : fk_ok RX9 37 9 0 := ⟨RX9, TX9, 11, rfl, by decide, rfl, uw_9, Or.inl (good_in (List.mem_of_getElem? (i := 389) (by decide +kernel)) rfl)⟩
theorem fl_X9_41 : fk_ok RX9 41 9 1 := ⟨RX9, TX9, 11, rfl, by decide, rfl, uw_9, Or.inl (good_in (List.mem_of_getElem? (i := 390) (by decide +kernel)) rfl)⟩
theorem fl_X9_48 : fk_ok RX9 48 9 2 := ⟨RX9, TX9, 11, rfl, by decide, rfl, uw_9, Or.inl (good_in (List.mem_of_getElem? (i := 391) (by decide +kernel)) rfl)⟩
theorem fl_X9_52 : fk_ok RX9 52 9 3 := ⟨RX9, TX9, 11, rfl, by decide, rfl, uw_9, Or.inl (good_in (List.mem_of_getElem? (i := 392) (by decide +kernel)) rfl)⟩
theorem fl_X9_55 : fk_ok RX9 55 9 4 := ⟨RX9, TX9, 11, rfl, by decide, rfl, uw_9, Or.inl (good_in (List.mem_of_getElem? (i := 393) (by decide +kernel)) rfl)⟩
theorem fl_X9_59 : fk_ok RX9 59 9 5 := ⟨RX9, TX9, 11, rfl, by decide, rfl, uw_9, Or.inl (good_in (List.mem_of_getElem? (i := 394) (by decide +kernel)) rfl)⟩
theorem fl_X9_62 : fk_ok RX9 62 9 6 := ⟨RX9, TX9, 11, rfl, by decide, rfl, uw_9, Or.inl (good_in (List.mem_of_getElem? (i := 395) (by decide +kernel)) rfl)⟩
theorem fl_X9_69 : fk_ok RX9 69 9 7 := ⟨RX9, TX9, 11, rfl, by decide, rfl, uw_9, Or.inl (good_in (List.mem_of_getElem? (i := 396) (by decide +kernel)) rfl)⟩
theorem fl_X9_73 : fk_ok RX9 73 9 8 := ⟨RX9, TX9, 11, rfl, by decide, rfl, uw_9, Or.inl (good_in (List.mem_of_getElem? (i := 397) (by decide +kernel)) rfl)⟩
theorem fl_X9_82 : fk_ok RX9 82 9 9 := ⟨RX9, TX9, 11, rfl, by decide, rfl, uw_9, Or.inl (good_in (List.mem_of_getElem? (i := 398) (by decide +kernel)) rfl)⟩
theorem fl_X9_89 : fk_ok RX9 89 9 10 := ⟨RX9, TX9, 11, rfl, by decide, rfl, uw_9, Or.inl (good_in (List.mem_of_getElem? (i := 399) (by decide +kernel)) rfl)⟩
theorem fl_X9_97 : fk_ok RX9 97 8 0 := ⟨RX8, TX8, 8, rfl, by decide, rfl, uw_8, Or.inr ⟨"OneManDesk", nest_in (List.mem_of_getElem? (i := 112) (by decide +kernel)) rfl⟩⟩
theorem fl_X10_101 : fk_ok RX10 101 10 35 := ⟨RX10, TX10, 48, rfl, by decide, rfl, uw_10, Or.inl (good_in (List.mem_of_getElem? (i := 948) (by decide +kernel)) rfl)⟩
theorem fl_X10_104 : fk_ok RX10 104 10 36 := ⟨RX10, TX10, 48, rfl, by decide, rfl, uw_10, Or.inl (good_in (List.mem_of_getElem? (i := 949) (by decide +kernel)) rfl)⟩
theorem fl_X10_107 : fk_ok RX10 107 10 38 := ⟨RX10, TX10, 48, rfl, by decide, rfl, uw_10, Or.inl (good_in (List.mem_of_getElem? (i := 951) (by decide +kernel)) rfl)⟩
theorem fl_X10_110 : fk_ok RX10 110 10 39 := ⟨RX10, TX10, 48, rfl, by decide, rfl, uw_10, Or.inl (good_in (List.mem_of_getElem? (i := 952) (by decide +kernel)) rfl)⟩
theorem fl_X10_113 : fk_ok RX10 113 10 40 := ⟨RX10, TX10, 48, rfl, by decide, rfl, uw_10, Or.inl (good_in (List.mem_of_getElem? (i := 953) (by decide +kernel)) rfl)⟩
theorem fl_X10_116 : fk_ok RX10 116 10 41 := ⟨RX10, TX10, 48, rfl, by decide, rfl, uw_10, Or.inl (good_in (List.mem_of_getElem? (i := 954) (by decide +kernel)) rfl)⟩
theorem fl_X10_13 : fk_ok RX10 13 10 1 := ⟨RX10, TX10, 48, rfl, by decide, rfl, uw_10, Or.inl (good_in (List.mem_of_getElem? (i := 914) (by decide +kernel)) rfl)⟩
theorem fl_X10_147 : fk_ok RX10 147 10 7 := ⟨RX10, TX10, 48, rfl, by decide, rfl, uw_10, Or.inl (good_in (List.mem_of_getElem? (i := 920) (by decide +kernel)) rfl)⟩
theorem fl_X10_16 : fk_ok RX10 16 10 2 := ⟨RX10, TX10, 48, rfl, by decide, rfl, uw_10, Or.inl (good_in (List.mem_of_getElem? (i := 915) (by decide +kernel)) rfl)⟩
theorem fl_X10_160 : fk_ok RX10 160 10 10 := ⟨RX10, TX10, 48, rfl, by decide, rfl, uw_10, Or.inl (good_in (List.mem_of_getElem? (i := 923) (by decide +kernel)) rfl)⟩
theorem fl_X10_163 : fk_ok RX10 163 10 43 := ⟨RX10, TX10, 48, rfl, by decide, rfl, uw_10, Or.inl (good_in (List.mem_of_getElem? (i := 956) (by decide +kernel)) rfl)⟩
theorem fl_X10_166 : fk_ok RX10 166 10 44 := ⟨RX10, TX10, 48, rfl, by decide, rfl, uw_10, Or.inl (good_in (List.mem_of_getElem? (i := 957) (by decide +kernel)) rfl)⟩
theorem fl_X10_173 : fk_ok RX10 173 10 45 := ⟨RX10, TX10, 48, rfl, by decide, rfl, uw_10, Or.inl (good_in (List.mem_of_getElem? (i := 958) (by decide +kernel)) rfl)⟩
theorem fl_X10_183 : fk_ok RX10 183 10 46 := ⟨RX10, TX10, 48, rfl, by decide, rfl, uw_10, Or.inl (good_in (List.mem_of_getElem? (i := 959) (by decide +kernel)) rfl)⟩
theorem fl_X10_186 : fk_ok RX10 186 10 16 := ⟨RX10, TX10, 48, rfl, by decide, rfl, uw_10, Or.inl (good_in (List.mem_of_getElem? (i := 929) (by decide +kernel)) rfl)⟩
theorem fl_X10_19 : fk_ok RX10 19 10 3 := ⟨RX10, TX10, 48, rfl, by decide, rfl, uw_10, Or.inl (good_in (List.mem_of_getElem? (i := 916) (by decide +kernel)) rfl)⟩
theorem fl_X10_22 : fk_ok RX10 22 10 4 := ⟨RX10, TX10, 48, rfl, by decide, rfl, uw_10, Or.inl (good_in (List.mem_of_getElem? (i := 917) (by decide +kernel)) rfl)⟩
theorem fl_X10_231 : fk_ok RX10 231 10 25 := ⟨RX10, TX10, 48, rfl, by decide, rfl, uw_10, Or.inl (good_in (List.mem_of_getElem? (i := 938) (by decide +kernel)) rfl)⟩
theorem fl_X10_25 : fk_ok RX10 25 10 5 := ⟨RX10, TX10, 48, rfl, by decide, rfl, uw_10, Or.inl (good_in (List.mem_of_getElem? (i := 918) (by decide +kernel)) rfl)⟩
theorem fl_X10_260 : fk_ok RX10 260 10 47 := ⟨RX10, TX10, 48, rfl, by decide, rfl, uw_10, Or.inl (good_in (List.mem_of_getElem? (i := 960) (by decide +kernel)) rfl)⟩
theorem fl_X10_263 : fk_ok RX10 263 10 26 := ⟨RX10, TX10, 48, rfl, by decide, rfl, uw_10, Or.inl (good_in (List.mem_of_getElem? (i := 939) (by decide +kernel)) rfl)⟩
theorem fl_X10_28 : fk_ok RX10 28 10 6 := ⟨RX10, TX10, 48, rfl, by decide, rfl, uw_10, Or.inl (good_in (List.mem_of_getElem? (i := 919) (by decide +kernel)) rfl)⟩
theorem fl_X10_286 : fk_ok RX10 286 10 37 := ⟨RX10, TX10, 48, rfl, by decide, rfl, uw_10, Or.inl (good_in (List.mem_of_getElem? (i := 950) (by decide +kernel)) rfl)⟩
theorem fl_X10_306 : fk_ok RX10 306 10 42 := ⟨RX10, TX10, 48, rfl, by decide, rfl, uw_10, Or.inl (good_in (List.mem_of_getElem? (i := 955) (by decide +kernel)) rfl)⟩
theorem fl_X10_32 : fk_ok RX10 32 10 8 := ⟨RX10, TX10, 48, rfl, by decide, rfl, uw_10, Or.inl (good_in (List.mem_of_getElem? (i := 921) (by decide +kernel)) rfl)⟩
theorem fl_X10_35 : fk_ok RX10 35 10 9 := ⟨RX10, TX10, 48, rfl, by decide, rfl, uw_10, Or.inl (good_in (List.mem_of_getElem? (i := 922) (by decide +kernel)) rfl)⟩
theorem fl_X10_38 : fk_ok RX10 38 10 11 := ⟨RX10, TX10, 48, rfl, by decide, rfl, uw_10, Or.inl (good_in (List.mem_of_getElem? (i := 924) (by decide +kernel)) rfl)⟩
theorem fl_X10_41 : fk_ok RX10 41 10 12 := ⟨RX10, TX10, 48, rfl, by decide, rfl, uw_10, Or.inl (good_in (List.mem_of_getElem? (i := 925) (by decide +kernel)) rfl)⟩
theorem fl_X10_44 : fk_ok RX10 44 10 13 := ⟨RX10, TX10, 48, rfl, by decide, rfl, uw_10, Or.inl (good_in (List.mem_of_getElem? (i := 926) (by decide +kernel)) rfl)⟩
theorem fl_X10_47 : fk_ok RX10 47 10 14 := ⟨RX10, TX10, 48, rfl, by decide, rfl, uw_10, Or.inl (good_in (List.mem_of_getElem? (i := 927) (by decide +kernel)) rfl)⟩
theorem fl_X10_50 : fk_ok RX10 50 10 15 := ⟨RX10, TX10, 48, rfl, by decide, rfl, uw_10, Or.inl (good_in (List.mem_of_getElem? (i := 928) (by decide +kernel)) rfl)⟩
theorem fl_X10_53 : fk_ok RX10 53 10 17 := ⟨RX10, TX10, 48, rfl, by decide, rfl, uw_10, Or.inl (good_in (List.mem_of_getElem? (i := 930) (by decide +kernel)) rfl)⟩
theorem fl_X10_56 : fk_ok RX10 56 10 18 := ⟨RX10, TX10, 48, rfl, by decide, rfl, uw_10, Or.inl (good_in (List.mem_of_getElem? (i := 931) (by decide +kernel)) rfl)⟩
theorem fl_X10_59 : fk_ok RX10 59 10 19 := ⟨RX10, TX10, 48, rfl, by decide, rfl, uw_10, Or.inl (good_in (List.mem_of_getElem? (i := 932) (by decide +kernel)) rfl)⟩
theorem fl_X10_62 : fk_ok RX10 62 10 20 := ⟨RX10, TX10, 48, rfl, by decide, rfl, uw_10, Or.inl (good_in (List.mem_of_getElem? (i := 933) (by decide +kernel)) rfl)⟩
theorem fl_X10_65 : fk_ok RX10 65 10 21 := ⟨RX10, TX10, 48, rfl, by decide, rfl, uw_10, Or.inl (good_in (List.mem_of_getElem? (i := 934) (by decide +kernel)) rfl)⟩
theorem fl_X10_68 : fk_ok RX10 68 10 22 := ⟨RX10, TX10, 48, rfl, by decide, rfl, uw_10, Or.inl (good_in (List.mem_of_getElem? (i := 935) (by decide +kernel)) rfl)⟩
theorem fl_X10_7 : fk_ok RX10 7 10 0 := ⟨RX10, TX10, 48, rfl, by decide, rfl, uw_10, Or.inl (good_in (List.mem_of_getElem? (i := 913) (by decide +kernel)) rfl)⟩
theorem fl_X10_71 : fk_ok RX10 71 10 23 := ⟨RX10, TX10, 48, rfl, by decide, rfl, uw_10, Or.inl (good_in (List.mem_of_getElem? (i := 936) (by decide +kernel)) rfl)⟩
theorem fl_X10_74 : fk_ok RX10 74 10 24 := ⟨RX10, TX10, 48, rfl, by decide, rfl, uw_10, Or.inl (good_in (List.mem_of_getElem? (i := 937) (by decide +kernel)) rfl)⟩
theorem fl_X10_77 : fk_ok RX10 77 10 27 := ⟨RX10, TX10, 48, rfl, by decide, rfl, uw_10, Or.inl (good_in (List.mem_of_getElem? (i := 940) (by decide +kernel)) rfl)⟩
theorem fl_X10_80 : fk_ok RX10 80 10 28 := ⟨RX10, TX10, 48, rfl, by decide, rfl, uw_10, Or.inl (good_in (List.mem_of_getElem? (i := 941) (by decide +kernel)) rfl)⟩
theorem fl_X10_83 : fk_ok RX10 83 10 29 := ⟨RX10, TX10, 48, rfl, by decide, rfl, uw_10, Or.inl (good_in (List.mem_of_getElem? (i := 942) (by decide +kernel)) rfl)⟩
theorem fl_X10_86 : fk_ok RX10 86 10 30 := ⟨RX10, TX10, 48, rfl, by decide, rfl, uw_10, Or.inl (good_in (List.mem_of_getElem? (i := 943) (by decide +kernel)) rfl)⟩
theorem fl_X10_89 : fk_ok RX10 89 10 31 := ⟨RX10, TX10, 48, rfl, by decide, rfl, uw_10, Or.inl (good_in (List.mem_of_getElem? (i := 944) (by decide +kernel)) rfl)⟩
theorem fl_X10_92 : fk_ok RX10 92 10 32 := ⟨RX10, TX10, 48, rfl, by decide, rfl, uw_10, Or.inl (good_in (List.mem_of_getElem? (i := 945) (by decide +kernel)) rfl)⟩
theorem fl_X10_95 : fk_ok RX10 95 10 33 := ⟨RX10, TX10, 48, rfl, by decide, rfl, uw_10, Or.inl (good_in (List.mem_of_getElem? (i := 946) (by decide +kernel)) rfl)⟩
theorem fl_X10_98 : fk_ok RX10 98 10 34 := ⟨RX10, TX10, 48, rfl, by decide, rfl, uw_10, Or.inl (good_in (List.mem_of_getElem? (i := 947) (by decide +kernel)) rfl)⟩
theorem pk_0_3 : pk_ok 0 3 := ⟨RX0, TX0, 5, tyX0, rfl, rfl, rfl, tyX0_ok, nmX0⟩
theorem pk_0_4 : pk_ok 0 4 := ⟨RX0, TX0, 5, tyX0, rfl, rfl, rfl, tyX0_ok, nmX0⟩
theorem pk_1_7 : pk_ok 1 7 := ⟨RX1, TX1, 8, tyX1, rfl, rfl, rfl, tyX1_ok, nmX1⟩
theorem pk_2_9 : pk_ok 2 9 := ⟨RX2, TX2, 10, tyX2, rfl, rfl, rfl, tyX2_ok, nmX2⟩
theorem pk_3_4 : pk_ok 3 4 := ⟨RX3, TX3, 5, tyX3, rfl, rfl, rfl, tyX3_ok, nmX3⟩
theorem pk_5_3 : pk_ok 5 3 := ⟨RX5, TX5, 4, tyX5, rfl, rfl, rfl, tyX5_ok, nmX5⟩
theorem pk_6_2 : pk_ok 6 2 := ⟨RX6, TX6, 3, tyX6, rfl, rfl, rfl, tyX6_ok, nmX6⟩
theorem pk_7_4 : pk_ok 7 4 := ⟨RX7, TX7, 8, tyX7, rfl, rfl, rfl, tyX7_ok, nmX7⟩
theorem pk_7_5 : pk_ok 7 5 := ⟨RX7, TX7, 8, tyX7, rfl, rfl, rfl, tyX7_ok, nmX7⟩
theorem pk_7_6 : pk_ok 7 6 := ⟨RX7, TX7, 8, tyX7, rfl, rfl, rfl, tyX7_ok, nmX7⟩
theorem pk_7_7 : pk_ok 7 7 := ⟨RX7, TX7, 8, tyX7, rfl, rfl, rfl, tyX7_ok, nmX7⟩
theorem pk_8_7 : pk_ok 8 7 := ⟨RX8, TX8, 8, tyX8, rfl, rfl, rfl, tyX8_ok, nmX8⟩
theorem pk_10_10 : pk_ok 10 10 := ⟨RX10, TX10, 48, tyX10, rfl, rfl, rfl, tyX10_ok, nmX10⟩
theorem pk_10_16 : pk_ok 10 16 := ⟨RX10, TX10, 48, tyX10, rfl, rfl, rfl, tyX10_ok, nmX10⟩
theorem pk_10_25 : pk_ok 10 25 := ⟨RX10, TX10, 48, tyX10, rfl, rfl, rfl, tyX10_ok, nmX10⟩
theorem pk_10_26 : pk_ok 10 26 := ⟨RX10, TX10, 48, tyX10, rfl, rfl, rfl, tyX10_ok, nmX10⟩
theorem pk_10_37 : pk_ok 10 37 := ⟨RX10, TX10, 48, tyX10, rfl, rfl, rfl, tyX10_ok, nmX10⟩
theorem pk_10_42 : pk_ok 10 42 := ⟨RX10, TX10, 48, tyX10, rfl, rfl, rfl, tyX10_ok, nmX10⟩
theorem pk_10_43 : pk_ok 10 43 := ⟨RX10, TX10, 48, tyX10, rfl, rfl, rfl, tyX10_ok, nmX10⟩
theorem pk_10_44 : pk_ok 10 44 := ⟨RX10, TX10, 48, tyX10, rfl, rfl, rfl, tyX10_ok, nmX10⟩
theorem pk_10_45 : pk_ok 10 45 := ⟨RX10, TX10, 48, tyX10, rfl, rfl, rfl, tyX10_ok, nmX10⟩
theorem pk_10_46 : pk_ok 10 46 := ⟨RX10, TX10, 48, tyX10, rfl, rfl, rfl, tyX10_ok, nmX10⟩
theorem pk_10_47 : pk_ok 10 47 := ⟨RX10, TX10, 48, tyX10, rfl, rfl, rfl, tyX10_ok, nmX10⟩
theorem pk_10_7 : pk_ok 10 7 := ⟨RX10, TX10, 48, tyX10, rfl, rfl, rfl, tyX10_ok, nmX10⟩

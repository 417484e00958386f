theorem fk_RX11_11 : FK RX11 11 11 0 2 true "[LHoleDeck$Tray;" := ⟨RX11, TX11, 17, rfl, by decide, rfl, rfl, rfl, rfl, by decide, rfl, List.mem_filter.mpr ⟨List.mem_append_right _ (tbi2 _ (List.mem_of_getElem? (i := 187) rfl)), rfl⟩⟩
theorem fk_RX11_15 : FK RX11 15 11 1 2 true "[I" := ⟨RX11, TX11, 17, rfl, by decide, rfl, rfl, rfl, rfl, by decide, rfl, List.mem_filter.mpr ⟨List.mem_append_right _ (tbi2 _ (List.mem_of_getElem? (i := 188) rfl)), rfl⟩⟩
theorem fk_RX11_22 : FK RX11 22 11 2 2 true "LHoleDeck$House;" := ⟨RX11, TX11, 17, rfl, by decide, rfl, rfl, rfl, rfl, by decide, rfl, List.mem_filter.mpr ⟨List.mem_append_right _ (tbi2 _ (List.mem_of_getElem? (i := 189) rfl)), rfl⟩⟩
theorem fk_RX11_26 : FK RX11 26 11 3 2 true "[LHoleDeck$House;" := ⟨RX11, TX11, 17, rfl, by decide, rfl, rfl, rfl, rfl, by decide, rfl, List.mem_filter.mpr ⟨List.mem_append_right _ (tbi2 _ (List.mem_of_getElem? (i := 190) rfl)), rfl⟩⟩
theorem fk_RX11_33 : FK RX11 33 11 4 2 true "LHoleDeck$BookReader;" := ⟨RX11, TX11, 17, rfl, by decide, rfl, rfl, rfl, rfl, by decide, rfl, List.mem_filter.mpr ⟨List.mem_append_right _ (tbi2 _ (List.mem_of_getElem? (i := 191) rfl)), rfl⟩⟩
theorem fk_RX11_40 : FK RX11 40 11 5 2 true "LHoleDeck$StepReader;" := ⟨RX11, TX11, 17, rfl, by decide, rfl, rfl, rfl, rfl, by decide, rfl, List.mem_filter.mpr ⟨List.mem_append_right _ (tbi2 _ (List.mem_of_getElem? (i := 192) rfl)), rfl⟩⟩
theorem fk_RX11_47 : FK RX11 47 11 6 2 true "LHoleDeck$Machine;" := ⟨RX11, TX11, 17, rfl, by decide, rfl, rfl, rfl, rfl, by decide, rfl, List.mem_filter.mpr ⟨List.mem_append_right _ (tbi2 _ (List.mem_of_getElem? (i := 193) rfl)), rfl⟩⟩
theorem fk_RX11_54 : FK RX11 54 11 7 2 true "LHoleDeck$Planner;" := ⟨RX11, TX11, 17, rfl, by decide, rfl, rfl, rfl, rfl, by decide, rfl, List.mem_filter.mpr ⟨List.mem_append_right _ (tbi2 _ (List.mem_of_getElem? (i := 194) rfl)), rfl⟩⟩
theorem fk_RX11_61 : FK RX11 61 11 8 2 true "LHoleDeck$Misreads;" := ⟨RX11, TX11, 17, rfl, by decide, rfl, rfl, rfl, rfl, by decide, rfl, List.mem_filter.mpr ⟨List.mem_append_right _ (tbi2 _ (List.mem_of_getElem? (i := 195) rfl)), rfl⟩⟩
theorem fk_RX11_68 : FK RX11 68 11 9 2 true "LHoleDeck$Parting;" := ⟨RX11, TX11, 17, rfl, by decide, rfl, rfl, rfl, rfl, by decide, rfl, List.mem_filter.mpr ⟨List.mem_append_right _ (tbi2 _ (List.mem_of_getElem? (i := 196) rfl)), rfl⟩⟩
theorem fk_RX11_72 : FK RX11 72 11 10 0 false "I" := ⟨RX11, TX11, 17, rfl, by decide, rfl, rfl, rfl, rfl, by decide, rfl, List.mem_filter.mpr ⟨List.mem_append_right _ (tbi2 _ (List.mem_of_getElem? (i := 197) rfl)), rfl⟩⟩
theorem fk_RX11_76 : FK RX11 76 11 11 1 false "J" := ⟨RX11, TX11, 17, rfl, by decide, rfl, rfl, rfl, rfl, by decide, rfl, List.mem_filter.mpr ⟨List.mem_append_right _ (tbi2 _ (List.mem_of_getElem? (i := 198) rfl)), rfl⟩⟩
theorem fk_RX11_80 : FK RX11 80 11 12 1 false "J" := ⟨RX11, TX11, 17, rfl, by decide, rfl, rfl, rfl, rfl, by decide, rfl, List.mem_filter.mpr ⟨List.mem_append_right _ (tbi2 _ (List.mem_of_getElem? (i := 199) rfl)), rfl⟩⟩
theorem fk_RX11_83 : FK RX11 83 11 13 0 false "I" := ⟨RX11, TX11, 17, rfl, by decide, rfl, rfl, rfl, rfl, by decide, rfl, List.mem_filter.mpr ⟨List.mem_append_right _ (tbi2 _ (List.mem_of_getElem? (i := 200) rfl)), rfl⟩⟩
theorem fk_RX11_86 : FK RX11 86 11 14 0 false "I" := ⟨RX11, TX11, 17, rfl, by decide, rfl, rfl, rfl, rfl, by decide, rfl, List.mem_filter.mpr ⟨List.mem_append_right _ (tbi2 _ (List.mem_of_getElem? (i := 201) rfl)), rfl⟩⟩
theorem fk_RX11_89 : FK RX11 89 11 15 0 false "I" := ⟨RX11, TX11, 17, rfl, by decide, rfl, rfl, rfl, rfl, by decide, rfl, List.mem_filter.mpr ⟨List.mem_append_right _ (tbi2 _ (List.mem_of_getElem? (i := 202) rfl)), rfl⟩⟩
theorem fk_RX11_92 : FK RX11 92 11 16 0 false "I" := ⟨RX11, TX11, 17, rfl, by decide, rfl, rfl, rfl, rfl, by decide, rfl, List.mem_filter.mpr ⟨List.mem_append_right _ (tbi2 _ (List.mem_of_getElem? (i := 203) rfl)), rfl⟩⟩
theorem fk_RX0_9 : FK RX0 9 0 0 0 false "I" := ⟨RX0, TX0, 6, rfl, by decide, rfl, rfl, rfl, rfl, by decide, rfl, List.mem_filter.mpr ⟨List.mem_append_right _ (tbi1 _ (List.mem_of_getElem? (i := 44) rfl)), rfl⟩⟩
theorem fk_RX0_15 : FK RX0 15 0 1 0 false "I" := ⟨RX0, TX0, 6, rfl, by decide, rfl, rfl, rfl, rfl, by decide, rfl, List.mem_filter.mpr ⟨List.mem_append_right _ (tbi1 _ (List.mem_of_getElem? (i := 47) rfl)), rfl⟩⟩
theorem fk_RX0_18 : FK RX0 18 0 2 2 true "[I" := ⟨RX0, TX0, 6, rfl, by decide, rfl, rfl, rfl, rfl, by decide, rfl, List.mem_filter.mpr ⟨List.mem_append_right _ (tbi1 _ (List.mem_of_getElem? (i := 50) rfl)), rfl⟩⟩
theorem fk_RX0_22 : FK RX0 22 0 3 2 true "[I" := ⟨RX0, TX0, 6, rfl, by decide, rfl, rfl, rfl, rfl, by decide, rfl, List.mem_filter.mpr ⟨List.mem_append_right _ (tbi1 _ (List.mem_of_getElem? (i := 52) rfl)), rfl⟩⟩
theorem fk_RX0_25 : FK RX0 25 0 4 2 true "[I" := ⟨RX0, TX0, 6, rfl, by decide, rfl, rfl, rfl, rfl, by decide, rfl, List.mem_filter.mpr ⟨List.mem_append_right _ (tbi1 _ (List.mem_of_getElem? (i := 55) rfl)), rfl⟩⟩
theorem fk_RX0_28 : FK RX0 28 0 5 2 true "[I" := ⟨RX0, TX0, 6, rfl, by decide, rfl, rfl, rfl, rfl, by decide, rfl, List.mem_filter.mpr ⟨List.mem_append_right _ (tbi1 _ (List.mem_of_getElem? (i := 58) rfl)), rfl⟩⟩
theorem fk_RX1_12 : FK RX1 12 1 0 2 true "LHoleDeck$Reader;" := ⟨RX1, TX1, 5, rfl, by decide, rfl, rfl, rfl, rfl, by decide, rfl, List.mem_filter.mpr ⟨List.mem_append_right _ (tbi1 _ (List.mem_of_getElem? (i := 200) rfl)), rfl⟩⟩
theorem fk_RX1_21 : FK RX1 21 1 1 2 true "LHoleDeck$Book;" := ⟨RX1, TX1, 5, rfl, by decide, rfl, rfl, rfl, rfl, by decide, rfl, List.mem_filter.mpr ⟨List.mem_append_right _ (tbi1 _ (List.mem_of_getElem? (i := 202) rfl)), rfl⟩⟩
theorem fk_RX1_25 : FK RX1 25 1 2 2 true "[J" := ⟨RX1, TX1, 5, rfl, by decide, rfl, rfl, rfl, rfl, by decide, rfl, List.mem_filter.mpr ⟨List.mem_append_right _ (tbi1 _ (List.mem_of_getElem? (i := 204) rfl)), rfl⟩⟩
theorem fk_RX1_29 : FK RX1 29 1 3 2 true "[J" := ⟨RX1, TX1, 5, rfl, by decide, rfl, rfl, rfl, rfl, by decide, rfl, List.mem_filter.mpr ⟨List.mem_append_right _ (tbi1 _ (List.mem_of_getElem? (i := 205) rfl)), rfl⟩⟩
theorem fk_RX1_32 : FK RX1 32 1 4 0 false "I" := ⟨RX1, TX1, 5, rfl, by decide, rfl, rfl, rfl, rfl, by decide, rfl, List.mem_filter.mpr ⟨List.mem_append_right _ (tbi1 _ (List.mem_of_getElem? (i := 206) rfl)), rfl⟩⟩
theorem fk_RX2_9 : FK RX2 9 2 0 0 false "I" := ⟨RX2, TX2, 10, rfl, by decide, rfl, rfl, rfl, rfl, by decide, rfl, List.mem_filter.mpr ⟨List.mem_append_right _ (tbi1 _ (List.mem_of_getElem? (i := 106) rfl)), rfl⟩⟩
theorem fk_RX2_15 : FK RX2 15 2 1 0 false "I" := ⟨RX2, TX2, 10, rfl, by decide, rfl, rfl, rfl, rfl, by decide, rfl, List.mem_filter.mpr ⟨List.mem_append_right _ (tbi1 _ (List.mem_of_getElem? (i := 112) rfl)), rfl⟩⟩
theorem fk_RX2_18 : FK RX2 18 2 2 2 true "[I" := ⟨RX2, TX2, 10, rfl, by decide, rfl, rfl, rfl, rfl, by decide, rfl, List.mem_filter.mpr ⟨List.mem_append_right _ (tbi1 _ (List.mem_of_getElem? (i := 115) rfl)), rfl⟩⟩
theorem fk_RX2_22 : FK RX2 22 2 3 2 true "[I" := ⟨RX2, TX2, 10, rfl, by decide, rfl, rfl, rfl, rfl, by decide, rfl, List.mem_filter.mpr ⟨List.mem_append_right _ (tbi1 _ (List.mem_of_getElem? (i := 116) rfl)), rfl⟩⟩
theorem fk_RX2_25 : FK RX2 25 2 4 2 true "[I" := ⟨RX2, TX2, 10, rfl, by decide, rfl, rfl, rfl, rfl, by decide, rfl, List.mem_filter.mpr ⟨List.mem_append_right _ (tbi1 _ (List.mem_of_getElem? (i := 117) rfl)), rfl⟩⟩
theorem fk_RX2_28 : FK RX2 28 2 5 2 true "[I" := ⟨RX2, TX2, 10, rfl, by decide, rfl, rfl, rfl, rfl, by decide, rfl, List.mem_filter.mpr ⟨List.mem_append_right _ (tbi1 _ (List.mem_of_getElem? (i := 119) rfl)), rfl⟩⟩
theorem fk_RX2_31 : FK RX2 31 2 6 2 true "[I" := ⟨RX2, TX2, 10, rfl, by decide, rfl, rfl, rfl, rfl, by decide, rfl, List.mem_filter.mpr ⟨List.mem_append_right _ (tbi1 _ (List.mem_of_getElem? (i := 123) rfl)), rfl⟩⟩
theorem fk_RX2_34 : FK RX2 34 2 7 2 true "[I" := ⟨RX2, TX2, 10, rfl, by decide, rfl, rfl, rfl, rfl, by decide, rfl, List.mem_filter.mpr ⟨List.mem_append_right _ (tbi1 _ (List.mem_of_getElem? (i := 126) rfl)), rfl⟩⟩
theorem fk_RX2_40 : FK RX2 40 2 8 2 true "LHoleDeck$Book;" := ⟨RX2, TX2, 10, rfl, by decide, rfl, rfl, rfl, rfl, by decide, rfl, List.mem_filter.mpr ⟨List.mem_append_right _ (tbi1 _ (List.mem_of_getElem? (i := 132) rfl)), rfl⟩⟩
theorem fk_RX2_47 : FK RX2 47 2 9 2 true "LHoleDeck$Steps;" := ⟨RX2, TX2, 10, rfl, by decide, rfl, rfl, rfl, rfl, by decide, rfl, List.mem_filter.mpr ⟨List.mem_append_right _ (tbi1 _ (List.mem_of_getElem? (i := 134) rfl)), rfl⟩⟩
theorem fk_RX3_9 : FK RX3 9 3 0 2 true "[I" := ⟨RX3, TX3, 8, rfl, by decide, rfl, rfl, rfl, rfl, by decide, rfl, List.mem_filter.mpr ⟨List.mem_append_right _ (tbi2 _ (List.mem_of_getElem? (i := 16) rfl)), rfl⟩⟩
theorem fk_RX3_15 : FK RX3 15 3 1 2 true "[I" := ⟨RX3, TX3, 8, rfl, by decide, rfl, rfl, rfl, rfl, by decide, rfl, List.mem_filter.mpr ⟨List.mem_append_right _ (tbi2 _ (List.mem_of_getElem? (i := 17) rfl)), rfl⟩⟩
theorem fk_RX3_20 : FK RX3 20 3 2 2 true "[I" := ⟨RX3, TX3, 8, rfl, by decide, rfl, rfl, rfl, rfl, by decide, rfl, List.mem_filter.mpr ⟨List.mem_append_right _ (tbi2 _ (List.mem_of_getElem? (i := 18) rfl)), rfl⟩⟩
theorem fk_RX3_23 : FK RX3 23 3 3 0 false "Z" := ⟨RX3, TX3, 8, rfl, by decide, rfl, rfl, rfl, rfl, by decide, rfl, List.mem_filter.mpr ⟨List.mem_append_right _ (tbi2 _ (List.mem_of_getElem? (i := 19) rfl)), rfl⟩⟩
theorem fk_RX3_27 : FK RX3 27 3 4 1 false "J" := ⟨RX3, TX3, 8, rfl, by decide, rfl, rfl, rfl, rfl, by decide, rfl, List.mem_filter.mpr ⟨List.mem_append_right _ (tbi2 _ (List.mem_of_getElem? (i := 21) rfl)), rfl⟩⟩
theorem fk_RX3_31 : FK RX3 31 3 5 0 false "I" := ⟨RX3, TX3, 8, rfl, by decide, rfl, rfl, rfl, rfl, by decide, rfl, List.mem_filter.mpr ⟨List.mem_append_right _ (tbi2 _ (List.mem_of_getElem? (i := 23) rfl)), rfl⟩⟩
theorem fk_RX3_35 : FK RX3 35 3 6 0 false "Z" := ⟨RX3, TX3, 8, rfl, by decide, rfl, rfl, rfl, rfl, by decide, rfl, List.mem_filter.mpr ⟨List.mem_append_right _ (tbi2 _ (List.mem_of_getElem? (i := 25) rfl)), rfl⟩⟩
theorem fk_RX3_38 : FK RX3 38 3 7 0 false "I" := ⟨RX3, TX3, 8, rfl, by decide, rfl, rfl, rfl, rfl, by decide, rfl, List.mem_filter.mpr ⟨List.mem_append_right _ (tbi2 _ (List.mem_of_getElem? (i := 27) rfl)), rfl⟩⟩
theorem fk_RX4_9 : FK RX4 9 4 0 0 false "Z" := ⟨RX4, TX4, 10, rfl, by decide, rfl, rfl, rfl, rfl, by decide, rfl, List.mem_filter.mpr ⟨List.mem_append_right _ (tbi2 _ (List.mem_of_getElem? (i := 95) rfl)), rfl⟩⟩
theorem fk_RX4_15 : FK RX4 15 4 1 0 false "I" := ⟨RX4, TX4, 10, rfl, by decide, rfl, rfl, rfl, rfl, by decide, rfl, List.mem_filter.mpr ⟨List.mem_append_right _ (tbi2 _ (List.mem_of_getElem? (i := 97) rfl)), rfl⟩⟩
theorem fk_RX4_19 : FK RX4 19 4 2 0 false "I" := ⟨RX4, TX4, 10, rfl, by decide, rfl, rfl, rfl, rfl, by decide, rfl, List.mem_filter.mpr ⟨List.mem_append_right _ (tbi2 _ (List.mem_of_getElem? (i := 99) rfl)), rfl⟩⟩
theorem fk_RX4_22 : FK RX4 22 4 3 2 true "[I" := ⟨RX4, TX4, 10, rfl, by decide, rfl, rfl, rfl, rfl, by decide, rfl, List.mem_filter.mpr ⟨List.mem_append_right _ (tbi2 _ (List.mem_of_getElem? (i := 101) rfl)), rfl⟩⟩
theorem fk_RX4_26 : FK RX4 26 4 4 2 true "[I" := ⟨RX4, TX4, 10, rfl, by decide, rfl, rfl, rfl, rfl, by decide, rfl, List.mem_filter.mpr ⟨List.mem_append_right _ (tbi2 _ (List.mem_of_getElem? (i := 103) rfl)), rfl⟩⟩
theorem fk_RX4_29 : FK RX4 29 4 5 2 true "[J" := ⟨RX4, TX4, 10, rfl, by decide, rfl, rfl, rfl, rfl, by decide, rfl, List.mem_filter.mpr ⟨List.mem_append_right _ (tbi2 _ (List.mem_of_getElem? (i := 104) rfl)), rfl⟩⟩
theorem fk_RX4_33 : FK RX4 33 4 6 2 true "[I" := ⟨RX4, TX4, 10, rfl, by decide, rfl, rfl, rfl, rfl, by decide, rfl, List.mem_filter.mpr ⟨List.mem_append_right _ (tbi2 _ (List.mem_of_getElem? (i := 105) rfl)), rfl⟩⟩
theorem fk_RX4_36 : FK RX4 36 4 7 2 true "[I" := ⟨RX4, TX4, 10, rfl, by decide, rfl, rfl, rfl, rfl, by decide, rfl, List.mem_filter.mpr ⟨List.mem_append_right _ (tbi2 _ (List.mem_of_getElem? (i := 106) rfl)), rfl⟩⟩
theorem fk_RX4_39 : FK RX4 39 4 8 0 false "I" := ⟨RX4, TX4, 10, rfl, by decide, rfl, rfl, rfl, rfl, by decide, rfl, List.mem_filter.mpr ⟨List.mem_append_right _ (tbi2 _ (List.mem_of_getElem? (i := 107) rfl)), rfl⟩⟩
theorem fk_RX4_42 : FK RX4 42 4 9 0 false "I" := ⟨RX4, TX4, 10, rfl, by decide, rfl, rfl, rfl, rfl, by decide, rfl, List.mem_filter.mpr ⟨List.mem_append_right _ (tbi2 _ (List.mem_of_getElem? (i := 108) rfl)), rfl⟩⟩
theorem fk_RX5_9 : FK RX5 9 5 0 0 false "Z" := ⟨RX5, TX5, 8, rfl, by decide, rfl, rfl, rfl, rfl, by decide, rfl, List.mem_filter.mpr ⟨List.mem_append_right _ (tbi2 _ (List.mem_of_getElem? (i := 136) rfl)), rfl⟩⟩
theorem fk_RX5_15 : FK RX5 15 5 1 0 false "I" := ⟨RX5, TX5, 8, rfl, by decide, rfl, rfl, rfl, rfl, by decide, rfl, List.mem_filter.mpr ⟨List.mem_append_right _ (tbi2 _ (List.mem_of_getElem? (i := 138) rfl)), rfl⟩⟩
theorem fk_RX5_19 : FK RX5 19 5 2 0 false "I" := ⟨RX5, TX5, 8, rfl, by decide, rfl, rfl, rfl, rfl, by decide, rfl, List.mem_filter.mpr ⟨List.mem_append_right _ (tbi2 _ (List.mem_of_getElem? (i := 140) rfl)), rfl⟩⟩
theorem fk_RX5_22 : FK RX5 22 5 3 2 true "[I" := ⟨RX5, TX5, 8, rfl, by decide, rfl, rfl, rfl, rfl, by decide, rfl, List.mem_filter.mpr ⟨List.mem_append_right _ (tbi2 _ (List.mem_of_getElem? (i := 142) rfl)), rfl⟩⟩
theorem fk_RX5_26 : FK RX5 26 5 4 2 true "[I" := ⟨RX5, TX5, 8, rfl, by decide, rfl, rfl, rfl, rfl, by decide, rfl, List.mem_filter.mpr ⟨List.mem_append_right _ (tbi2 _ (List.mem_of_getElem? (i := 144) rfl)), rfl⟩⟩
theorem fk_RX5_29 : FK RX5 29 5 5 2 true "[I" := ⟨RX5, TX5, 8, rfl, by decide, rfl, rfl, rfl, rfl, by decide, rfl, List.mem_filter.mpr ⟨List.mem_append_right _ (tbi2 _ (List.mem_of_getElem? (i := 145) rfl)), rfl⟩⟩
theorem fk_RX5_32 : FK RX5 32 5 6 2 true "[I" := ⟨RX5, TX5, 8, rfl, by decide, rfl, rfl, rfl, rfl, by decide, rfl, List.mem_filter.mpr ⟨List.mem_append_right _ (tbi2 _ (List.mem_of_getElem? (i := 146) rfl)), rfl⟩⟩
theorem fk_RX5_35 : FK RX5 35 5 7 2 true "[I" := ⟨RX5, TX5, 8, rfl, by decide, rfl, rfl, rfl, rfl, by decide, rfl, List.mem_filter.mpr ⟨List.mem_append_right _ (tbi2 _ (List.mem_of_getElem? (i := 147) rfl)), rfl⟩⟩
theorem fk_RX6_9 : FK RX6 9 6 0 2 true "[I" := ⟨RX6, TX6, 11, rfl, by decide, rfl, rfl, rfl, rfl, by decide, rfl, List.mem_filter.mpr ⟨List.mem_append_right _ (tbi2 _ (List.mem_of_getElem? (i := 51) rfl)), rfl⟩⟩
theorem fk_RX6_15 : FK RX6 15 6 1 0 false "I" := ⟨RX6, TX6, 11, rfl, by decide, rfl, rfl, rfl, rfl, by decide, rfl, List.mem_filter.mpr ⟨List.mem_append_right _ (tbi2 _ (List.mem_of_getElem? (i := 52) rfl)), rfl⟩⟩
theorem fk_RX6_19 : FK RX6 19 6 2 2 true "[I" := ⟨RX6, TX6, 11, rfl, by decide, rfl, rfl, rfl, rfl, by decide, rfl, List.mem_filter.mpr ⟨List.mem_append_right _ (tbi2 _ (List.mem_of_getElem? (i := 53) rfl)), rfl⟩⟩
theorem fk_RX6_22 : FK RX6 22 6 3 2 true "[I" := ⟨RX6, TX6, 11, rfl, by decide, rfl, rfl, rfl, rfl, by decide, rfl, List.mem_filter.mpr ⟨List.mem_append_right _ (tbi2 _ (List.mem_of_getElem? (i := 54) rfl)), rfl⟩⟩
theorem fk_RX6_25 : FK RX6 25 6 4 0 false "I" := ⟨RX6, TX6, 11, rfl, by decide, rfl, rfl, rfl, rfl, by decide, rfl, List.mem_filter.mpr ⟨List.mem_append_right _ (tbi2 _ (List.mem_of_getElem? (i := 55) rfl)), rfl⟩⟩
theorem fk_RX6_28 : FK RX6 28 6 5 2 true "[I" := ⟨RX6, TX6, 11, rfl, by decide, rfl, rfl, rfl, rfl, by decide, rfl, List.mem_filter.mpr ⟨List.mem_append_right _ (tbi2 _ (List.mem_of_getElem? (i := 56) rfl)), rfl⟩⟩
theorem fk_RX6_31 : FK RX6 31 6 6 2 true "[I" := ⟨RX6, TX6, 11, rfl, by decide, rfl, rfl, rfl, rfl, by decide, rfl, List.mem_filter.mpr ⟨List.mem_append_right _ (tbi2 _ (List.mem_of_getElem? (i := 57) rfl)), rfl⟩⟩
theorem fk_RX6_34 : FK RX6 34 6 7 0 false "Z" := ⟨RX6, TX6, 11, rfl, by decide, rfl, rfl, rfl, rfl, by decide, rfl, List.mem_filter.mpr ⟨List.mem_append_right _ (tbi2 _ (List.mem_of_getElem? (i := 58) rfl)), rfl⟩⟩
theorem fk_RX6_38 : FK RX6 38 6 8 0 false "I" := ⟨RX6, TX6, 11, rfl, by decide, rfl, rfl, rfl, rfl, by decide, rfl, List.mem_filter.mpr ⟨List.mem_append_right _ (tbi2 _ (List.mem_of_getElem? (i := 60) rfl)), rfl⟩⟩
theorem fk_RX6_41 : FK RX6 41 6 9 0 false "I" := ⟨RX6, TX6, 11, rfl, by decide, rfl, rfl, rfl, rfl, by decide, rfl, List.mem_filter.mpr ⟨List.mem_append_right _ (tbi2 _ (List.mem_of_getElem? (i := 62) rfl)), rfl⟩⟩
theorem fk_RX6_44 : FK RX6 44 6 10 2 true "[I" := ⟨RX6, TX6, 11, rfl, by decide, rfl, rfl, rfl, rfl, by decide, rfl, List.mem_filter.mpr ⟨List.mem_append_right _ (tbi2 _ (List.mem_of_getElem? (i := 64) rfl)), rfl⟩⟩
theorem fk_RX7_9 : FK RX7 9 7 0 3 false "[I" := ⟨RX7, TX7, 7, rfl, by decide, rfl, rfl, rfl, rfl, by decide, rfl, List.mem_filter.mpr ⟨List.mem_append_right _ (tbi1 _ (List.mem_of_getElem? (i := 171) rfl)), rfl⟩⟩
theorem fk_RX7_15 : FK RX7 15 7 1 0 false "I" := ⟨RX7, TX7, 7, rfl, by decide, rfl, rfl, rfl, rfl, by decide, rfl, List.mem_filter.mpr ⟨List.mem_append_right _ (tbi1 _ (List.mem_of_getElem? (i := 172) rfl)), rfl⟩⟩
theorem fk_RX7_19 : FK RX7 19 7 2 0 false "I" := ⟨RX7, TX7, 7, rfl, by decide, rfl, rfl, rfl, rfl, by decide, rfl, List.mem_filter.mpr ⟨List.mem_append_right _ (tbi1 _ (List.mem_of_getElem? (i := 173) rfl)), rfl⟩⟩
theorem fk_RX7_22 : FK RX7 22 7 3 0 false "I" := ⟨RX7, TX7, 7, rfl, by decide, rfl, rfl, rfl, rfl, by decide, rfl, List.mem_filter.mpr ⟨List.mem_append_right _ (tbi1 _ (List.mem_of_getElem? (i := 174) rfl)), rfl⟩⟩
theorem fk_RX7_25 : FK RX7 25 7 4 0 false "I" := ⟨RX7, TX7, 7, rfl, by decide, rfl, rfl, rfl, rfl, by decide, rfl, List.mem_filter.mpr ⟨List.mem_append_right _ (tbi1 _ (List.mem_of_getElem? (i := 175) rfl)), rfl⟩⟩
theorem fk_RX7_28 : FK RX7 28 7 5 0 false "I" := ⟨RX7, TX7, 7, rfl, by decide, rfl, rfl, rfl, rfl, by decide, rfl, List.mem_filter.mpr ⟨List.mem_append_right _ (tbi1 _ (List.mem_of_getElem? (i := 177) rfl)), rfl⟩⟩
theorem fk_RX7_31 : FK RX7 31 7 6 0 false "I" := ⟨RX7, TX7, 7, rfl, by decide, rfl, rfl, rfl, rfl, by decide, rfl, List.mem_filter.mpr ⟨List.mem_append_right _ (tbi1 _ (List.mem_of_getElem? (i := 181) rfl)), rfl⟩⟩
theorem fk_RX8_12 : FK RX8 12 8 0 2 true "LHoleDeck$Reader;" := ⟨RX8, TX8, 6, rfl, by decide, rfl, rfl, rfl, rfl, by decide, rfl, List.mem_filter.mpr ⟨List.mem_append_right _ (tbi1 _ (List.mem_of_getElem? (i := 229) rfl)), rfl⟩⟩
theorem fk_RX8_21 : FK RX8 21 8 1 2 true "LHoleDeck$Steps;" := ⟨RX8, TX8, 6, rfl, by decide, rfl, rfl, rfl, rfl, by decide, rfl, List.mem_filter.mpr ⟨List.mem_append_right _ (tbi1 _ (List.mem_of_getElem? (i := 231) rfl)), rfl⟩⟩
theorem fk_RX8_25 : FK RX8 25 8 2 2 true "[I" := ⟨RX8, TX8, 6, rfl, by decide, rfl, rfl, rfl, rfl, by decide, rfl, List.mem_filter.mpr ⟨List.mem_append_right _ (tbi1 _ (List.mem_of_getElem? (i := 233) rfl)), rfl⟩⟩
theorem fk_RX8_29 : FK RX8 29 8 3 0 false "I" := ⟨RX8, TX8, 6, rfl, by decide, rfl, rfl, rfl, rfl, by decide, rfl, List.mem_filter.mpr ⟨List.mem_append_right _ (tbi1 _ (List.mem_of_getElem? (i := 234) rfl)), rfl⟩⟩
theorem fk_RX8_33 : FK RX8 33 8 4 0 false "I" := ⟨RX8, TX8, 6, rfl, by decide, rfl, rfl, rfl, rfl, by decide, rfl, List.mem_filter.mpr ⟨List.mem_append_right _ (tbi1 _ (List.mem_of_getElem? (i := 235) rfl)), rfl⟩⟩
theorem fk_RX8_36 : FK RX8 36 8 5 0 false "I" := ⟨RX8, TX8, 6, rfl, by decide, rfl, rfl, rfl, rfl, by decide, rfl, List.mem_filter.mpr ⟨List.mem_append_right _ (tbi1 _ (List.mem_of_getElem? (i := 236) rfl)), rfl⟩⟩
theorem fk_RX9_9 : FK RX9 9 9 0 0 false "I" := ⟨RX9, TX9, 6, rfl, by decide, rfl, rfl, rfl, rfl, by decide, rfl, List.mem_filter.mpr ⟨List.mem_append_right _ (tbi1 _ (List.mem_of_getElem? (i := 79) rfl)), rfl⟩⟩
theorem fk_RX9_15 : FK RX9 15 9 1 0 false "I" := ⟨RX9, TX9, 6, rfl, by decide, rfl, rfl, rfl, rfl, by decide, rfl, List.mem_filter.mpr ⟨List.mem_append_right _ (tbi1 _ (List.mem_of_getElem? (i := 82) rfl)), rfl⟩⟩
theorem fk_RX9_18 : FK RX9 18 9 2 2 true "[I" := ⟨RX9, TX9, 6, rfl, by decide, rfl, rfl, rfl, rfl, by decide, rfl, List.mem_filter.mpr ⟨List.mem_append_right _ (tbi1 _ (List.mem_of_getElem? (i := 85) rfl)), rfl⟩⟩
theorem fk_RX9_22 : FK RX9 22 9 3 2 true "[I" := ⟨RX9, TX9, 6, rfl, by decide, rfl, rfl, rfl, rfl, by decide, rfl, List.mem_filter.mpr ⟨List.mem_append_right _ (tbi1 _ (List.mem_of_getElem? (i := 87) rfl)), rfl⟩⟩
theorem fk_RX9_25 : FK RX9 25 9 4 2 true "[I" := ⟨RX9, TX9, 6, rfl, by decide, rfl, rfl, rfl, rfl, by decide, rfl, List.mem_filter.mpr ⟨List.mem_append_right _ (tbi1 _ (List.mem_of_getElem? (i := 89) rfl)), rfl⟩⟩
theorem fk_RX9_28 : FK RX9 28 9 5 2 true "[I" := ⟨RX9, TX9, 6, rfl, by decide, rfl, rfl, rfl, rfl, by decide, rfl, List.mem_filter.mpr ⟨List.mem_append_right _ (tbi1 _ (List.mem_of_getElem? (i := 91) rfl)), rfl⟩⟩
theorem fk_RX10_9 : FK RX10 9 10 0 0 false "Z" := ⟨RX10, TX10, 4, rfl, by decide, rfl, rfl, rfl, rfl, by decide, rfl, List.mem_filter.mpr ⟨List.mem_append_right _ (tbi2 _ (List.mem_of_getElem? (i := 170) rfl)), rfl⟩⟩
theorem fk_RX10_15 : FK RX10 15 10 1 0 false "I" := ⟨RX10, TX10, 4, rfl, by decide, rfl, rfl, rfl, rfl, by decide, rfl, List.mem_filter.mpr ⟨List.mem_append_right _ (tbi2 _ (List.mem_of_getElem? (i := 172) rfl)), rfl⟩⟩
theorem fk_RX10_19 : FK RX10 19 10 2 0 false "I" := ⟨RX10, TX10, 4, rfl, by decide, rfl, rfl, rfl, rfl, by decide, rfl, List.mem_filter.mpr ⟨List.mem_append_right _ (tbi2 _ (List.mem_of_getElem? (i := 174) rfl)), rfl⟩⟩
theorem fk_RX10_22 : FK RX10 22 10 3 2 true "[J" := ⟨RX10, TX10, 4, rfl, by decide, rfl, rfl, rfl, rfl, by decide, rfl, List.mem_filter.mpr ⟨List.mem_append_right _ (tbi2 _ (List.mem_of_getElem? (i := 176) rfl)), rfl⟩⟩
theorem fk_RX12_7 : FK RX12 7 12 0 2 true "[I" := ⟨RX12, TX12, 52, rfl, by decide, rfl, rfl, rfl, rfl, by decide, rfl, List.mem_filter.mpr ⟨List.mem_append_right _ (tbi6 _ (List.mem_of_getElem? (i := 84) rfl)), rfl⟩⟩
theorem fk_RX12_13 : FK RX12 13 12 3 1 false "J" := ⟨RX12, TX12, 52, rfl, by decide, rfl, rfl, rfl, rfl, by decide, rfl, List.mem_filter.mpr ⟨List.mem_append_right _ (tbi6 _ (List.mem_of_getElem? (i := 87) rfl)), rfl⟩⟩
theorem fk_RX12_17 : FK RX12 17 12 4 2 true "[I" := ⟨RX12, TX12, 52, rfl, by decide, rfl, rfl, rfl, rfl, by decide, rfl, List.mem_filter.mpr ⟨List.mem_append_right _ (tbi6 _ (List.mem_of_getElem? (i := 88) rfl)), rfl⟩⟩
theorem fk_RX12_20 : FK RX12 20 12 5 2 true "[I" := ⟨RX12, TX12, 52, rfl, by decide, rfl, rfl, rfl, rfl, by decide, rfl, List.mem_filter.mpr ⟨List.mem_append_right _ (tbi6 _ (List.mem_of_getElem? (i := 89) rfl)), rfl⟩⟩
theorem fk_RX12_23 : FK RX12 23 12 6 2 true "[J" := ⟨RX12, TX12, 52, rfl, by decide, rfl, rfl, rfl, rfl, by decide, rfl, List.mem_filter.mpr ⟨List.mem_append_right _ (tbi6 _ (List.mem_of_getElem? (i := 90) rfl)), rfl⟩⟩
theorem fk_RX12_27 : FK RX12 27 12 7 2 true "[B" := ⟨RX12, TX12, 52, rfl, by decide, rfl, rfl, rfl, rfl, by decide, rfl, List.mem_filter.mpr ⟨List.mem_append_right _ (tbi6 _ (List.mem_of_getElem? (i := 91) rfl)), rfl⟩⟩
theorem fk_RX12_31 : FK RX12 31 12 8 2 true "[B" := ⟨RX12, TX12, 52, rfl, by decide, rfl, rfl, rfl, rfl, by decide, rfl, List.mem_filter.mpr ⟨List.mem_append_right _ (tbi6 _ (List.mem_of_getElem? (i := 92) rfl)), rfl⟩⟩
theorem fk_RX12_34 : FK RX12 34 12 15 0 false "I" := ⟨RX12, TX12, 52, rfl, by decide, rfl, rfl, rfl, rfl, by decide, rfl, List.mem_filter.mpr ⟨List.mem_append_right _ (tbi6 _ (List.mem_of_getElem? (i := 99) rfl)), rfl⟩⟩
theorem fk_RX12_38 : FK RX12 38 12 16 0 false "I" := ⟨RX12, TX12, 52, rfl, by decide, rfl, rfl, rfl, rfl, by decide, rfl, List.mem_filter.mpr ⟨List.mem_append_right _ (tbi6 _ (List.mem_of_getElem? (i := 100) rfl)), rfl⟩⟩
theorem fk_RX12_41 : FK RX12 41 12 18 2 true "[J" := ⟨RX12, TX12, 52, rfl, by decide, rfl, rfl, rfl, rfl, by decide, rfl, List.mem_filter.mpr ⟨List.mem_append_right _ (tbi6 _ (List.mem_of_getElem? (i := 102) rfl)), rfl⟩⟩
theorem fk_RX12_44 : FK RX12 44 12 19 2 true "[J" := ⟨RX12, TX12, 52, rfl, by decide, rfl, rfl, rfl, rfl, by decide, rfl, List.mem_filter.mpr ⟨List.mem_append_right _ (tbi6 _ (List.mem_of_getElem? (i := 103) rfl)), rfl⟩⟩
theorem fk_RX12_47 : FK RX12 47 12 20 2 true "[I" := ⟨RX12, TX12, 52, rfl, by decide, rfl, rfl, rfl, rfl, by decide, rfl, List.mem_filter.mpr ⟨List.mem_append_right _ (tbi6 _ (List.mem_of_getElem? (i := 104) rfl)), rfl⟩⟩
theorem fk_RX12_50 : FK RX12 50 12 21 2 true "[I" := ⟨RX12, TX12, 52, rfl, by decide, rfl, rfl, rfl, rfl, by decide, rfl, List.mem_filter.mpr ⟨List.mem_append_right _ (tbi6 _ (List.mem_of_getElem? (i := 105) rfl)), rfl⟩⟩
theorem fk_RX12_53 : FK RX12 53 12 24 2 true "[I" := ⟨RX12, TX12, 52, rfl, by decide, rfl, rfl, rfl, rfl, by decide, rfl, List.mem_filter.mpr ⟨List.mem_append_right _ (tbi6 _ (List.mem_of_getElem? (i := 108) rfl)), rfl⟩⟩
theorem fk_RX12_56 : FK RX12 56 12 25 2 true "[I" := ⟨RX12, TX12, 52, rfl, by decide, rfl, rfl, rfl, rfl, by decide, rfl, List.mem_filter.mpr ⟨List.mem_append_right _ (tbi6 _ (List.mem_of_getElem? (i := 109) rfl)), rfl⟩⟩
theorem fk_RX12_59 : FK RX12 59 12 28 2 true "[I" := ⟨RX12, TX12, 52, rfl, by decide, rfl, rfl, rfl, rfl, by decide, rfl, List.mem_filter.mpr ⟨List.mem_append_right _ (tbi6 _ (List.mem_of_getElem? (i := 112) rfl)), rfl⟩⟩
theorem fk_RX12_62 : FK RX12 62 12 29 2 true "[I" := ⟨RX12, TX12, 52, rfl, by decide, rfl, rfl, rfl, rfl, by decide, rfl, List.mem_filter.mpr ⟨List.mem_append_right _ (tbi6 _ (List.mem_of_getElem? (i := 113) rfl)), rfl⟩⟩
theorem fk_RX12_65 : FK RX12 65 12 31 2 true "[I" := ⟨RX12, TX12, 52, rfl, by decide, rfl, rfl, rfl, rfl, by decide, rfl, List.mem_filter.mpr ⟨List.mem_append_right _ (tbi6 _ (List.mem_of_getElem? (i := 115) rfl)), rfl⟩⟩
theorem fk_RX12_68 : FK RX12 68 12 32 2 true "[I" := ⟨RX12, TX12, 52, rfl, by decide, rfl, rfl, rfl, rfl, by decide, rfl, List.mem_filter.mpr ⟨List.mem_append_right _ (tbi6 _ (List.mem_of_getElem? (i := 116) rfl)), rfl⟩⟩
theorem fk_RX12_71 : FK RX12 71 12 33 2 true "[I" := ⟨RX12, TX12, 52, rfl, by decide, rfl, rfl, rfl, rfl, by decide, rfl, List.mem_filter.mpr ⟨List.mem_append_right _ (tbi6 _ (List.mem_of_getElem? (i := 117) rfl)), rfl⟩⟩
theorem fk_RX12_74 : FK RX12 74 12 34 0 false "I" := ⟨RX12, TX12, 52, rfl, by decide, rfl, rfl, rfl, rfl, by decide, rfl, List.mem_filter.mpr ⟨List.mem_append_right _ (tbi6 _ (List.mem_of_getElem? (i := 118) rfl)), rfl⟩⟩
theorem fk_RX12_77 : FK RX12 77 12 38 0 false "I" := ⟨RX12, TX12, 52, rfl, by decide, rfl, rfl, rfl, rfl, by decide, rfl, List.mem_filter.mpr ⟨List.mem_append_right _ (tbi6 _ (List.mem_of_getElem? (i := 122) rfl)), rfl⟩⟩
theorem fk_RX12_80 : FK RX12 80 12 39 2 true "[I" := ⟨RX12, TX12, 52, rfl, by decide, rfl, rfl, rfl, rfl, by decide, rfl, List.mem_filter.mpr ⟨List.mem_append_right _ (tbi6 _ (List.mem_of_getElem? (i := 123) rfl)), rfl⟩⟩
theorem fk_RX12_83 : FK RX12 83 12 40 2 true "[I" := ⟨RX12, TX12, 52, rfl, by decide, rfl, rfl, rfl, rfl, by decide, rfl, List.mem_filter.mpr ⟨List.mem_append_right _ (tbi6 _ (List.mem_of_getElem? (i := 124) rfl)), rfl⟩⟩
theorem fk_RX12_86 : FK RX12 86 12 41 2 true "[I" := ⟨RX12, TX12, 52, rfl, by decide, rfl, rfl, rfl, rfl, by decide, rfl, List.mem_filter.mpr ⟨List.mem_append_right _ (tbi6 _ (List.mem_of_getElem? (i := 125) rfl)), rfl⟩⟩
theorem fk_RX12_89 : FK RX12 89 12 42 0 false "I" := ⟨RX12, TX12, 52, rfl, by decide, rfl, rfl, rfl, rfl, by decide, rfl, List.mem_filter.mpr ⟨List.mem_append_right _ (tbi6 _ (List.mem_of_getElem? (i := 126) rfl)), rfl⟩⟩
theorem fk_RX12_92 : FK RX12 92 12 45 2 true "[I" := ⟨RX12, TX12, 52, rfl, by decide, rfl, rfl, rfl, rfl, by decide, rfl, List.mem_filter.mpr ⟨List.mem_append_right _ (tbi6 _ (List.mem_of_getElem? (i := 129) rfl)), rfl⟩⟩
theorem fk_RX12_95 : FK RX12 95 12 46 2 true "[I" := ⟨RX12, TX12, 52, rfl, by decide, rfl, rfl, rfl, rfl, by decide, rfl, List.mem_filter.mpr ⟨List.mem_append_right _ (tbi6 _ (List.mem_of_getElem? (i := 130) rfl)), rfl⟩⟩
theorem fk_RX12_98 : FK RX12 98 12 47 2 true "[I" := ⟨RX12, TX12, 52, rfl, by decide, rfl, rfl, rfl, rfl, by decide, rfl, List.mem_filter.mpr ⟨List.mem_append_right _ (tbi6 _ (List.mem_of_getElem? (i := 131) rfl)), rfl⟩⟩
theorem fk_RX12_101 : FK RX12 101 12 48 2 true "[I" := ⟨RX12, TX12, 52, rfl, by decide, rfl, rfl, rfl, rfl, by decide, rfl, List.mem_filter.mpr ⟨List.mem_append_right _ (tbi6 _ (List.mem_of_getElem? (i := 132) rfl)), rfl⟩⟩
theorem fk_RX12_104 : FK RX12 104 12 49 0 false "I" := ⟨RX12, TX12, 52, rfl, by decide, rfl, rfl, rfl, rfl, by decide, rfl, List.mem_filter.mpr ⟨List.mem_append_right _ (tbi6 _ (List.mem_of_getElem? (i := 133) rfl)), rfl⟩⟩
theorem lw_RX11_9 : LW RX11 9 10 := ⟨RX10, TX10, 4, tyX10, rfl, List.mem_filter.mpr ⟨List.mem_append_right _ (tbi1 _ (List.mem_of_getElem? (i := 30) rfl)), rfl⟩, List.mem_filter.mpr ⟨List.mem_append_right _ (tbi2 _ (List.mem_of_getElem? (i := 165) rfl)), rfl⟩, List.mem_filter.mpr ⟨List.mem_append_right _ (tbi1 _ (List.mem_of_getElem? (i := 12) rfl)), rfl⟩, tyX10_ok, fun j tj h => by
  have hj : j < 4 := (List.getElem?_eq_some_iff.mp h).1
  revert tj
  revert j
  decide +kernel, rfl, by decide⟩
theorem lw_RX11_19 : LW RX11 19 2 := ⟨RX2, TX2, 10, tyX2, rfl, List.mem_filter.mpr ⟨List.mem_append_right _ (tbi1 _ (List.mem_of_getElem? (i := 32) rfl)), rfl⟩, List.mem_filter.mpr ⟨List.mem_append_right _ (tbi1 _ (List.mem_of_getElem? (i := 33) rfl)), rfl⟩, List.mem_filter.mpr ⟨List.mem_append_right _ (tbi1 _ (List.mem_of_getElem? (i := 2) rfl)), rfl⟩, tyX2_ok, fun j tj h => by
  have hj : j < 10 := (List.getElem?_eq_some_iff.mp h).1
  revert tj
  revert j
  decide +kernel, rfl, by decide⟩
theorem lw_RX11_30 : LW RX11 30 1 := ⟨RX1, TX1, 5, tyX1, rfl, List.mem_filter.mpr ⟨List.mem_append_right _ (tbi1 _ (List.mem_of_getElem? (i := 159) rfl)), rfl⟩, List.mem_filter.mpr ⟨List.mem_append_right _ (tbi1 _ (List.mem_of_getElem? (i := 160) rfl)), rfl⟩, List.mem_filter.mpr ⟨List.mem_append_right _ (tbi1 _ (List.mem_of_getElem? (i := 5) rfl)), rfl⟩, tyX1_ok, fun j tj h => by
  have hj : j < 5 := (List.getElem?_eq_some_iff.mp h).1
  revert tj
  revert j
  decide +kernel, rfl, by decide⟩
theorem lw_RX11_37 : LW RX11 37 8 := ⟨RX8, TX8, 6, tyX8, rfl, List.mem_filter.mpr ⟨List.mem_append_right _ (tbi1 _ (List.mem_of_getElem? (i := 219) rfl)), rfl⟩, List.mem_filter.mpr ⟨List.mem_append_right _ (tbi1 _ (List.mem_of_getElem? (i := 220) rfl)), rfl⟩, List.mem_filter.mpr ⟨List.mem_append_right _ (tbi1 _ (List.mem_of_getElem? (i := 7) rfl)), rfl⟩, tyX8_ok, fun j tj h => by
  have hj : j < 6 := (List.getElem?_eq_some_iff.mp h).1
  revert tj
  revert j
  decide +kernel, rfl, by decide⟩
theorem lw_RX11_44 : LW RX11 44 3 := ⟨RX3, TX3, 8, tyX3, rfl, List.mem_filter.mpr ⟨List.mem_append_right _ (tbi2 _ (List.mem_of_getElem? (i := 10) rfl)), rfl⟩, List.mem_filter.mpr ⟨List.mem_append_right _ (tbi2 _ (List.mem_of_getElem? (i := 11) rfl)), rfl⟩, List.mem_filter.mpr ⟨List.mem_append_right _ (tbi1 _ (List.mem_of_getElem? (i := 8) rfl)), rfl⟩, tyX3_ok, fun j tj h => by
  have hj : j < 8 := (List.getElem?_eq_some_iff.mp h).1
  revert tj
  revert j
  decide +kernel, rfl, by decide⟩
theorem lw_RX11_51 : LW RX11 51 6 := ⟨RX6, TX6, 11, tyX6, rfl, List.mem_filter.mpr ⟨List.mem_append_right _ (tbi2 _ (List.mem_of_getElem? (i := 45) rfl)), rfl⟩, List.mem_filter.mpr ⟨List.mem_append_right _ (tbi2 _ (List.mem_of_getElem? (i := 46) rfl)), rfl⟩, List.mem_filter.mpr ⟨List.mem_append_right _ (tbi1 _ (List.mem_of_getElem? (i := 9) rfl)), rfl⟩, tyX6_ok, fun j tj h => by
  have hj : j < 11 := (List.getElem?_eq_some_iff.mp h).1
  revert tj
  revert j
  decide +kernel, rfl, by decide⟩
theorem lw_RX11_58 : LW RX11 58 4 := ⟨RX4, TX4, 10, tyX4, rfl, List.mem_filter.mpr ⟨List.mem_append_right _ (tbi2 _ (List.mem_of_getElem? (i := 89) rfl)), rfl⟩, List.mem_filter.mpr ⟨List.mem_append_right _ (tbi2 _ (List.mem_of_getElem? (i := 90) rfl)), rfl⟩, List.mem_filter.mpr ⟨List.mem_append_right _ (tbi1 _ (List.mem_of_getElem? (i := 10) rfl)), rfl⟩, tyX4_ok, fun j tj h => by
  have hj : j < 10 := (List.getElem?_eq_some_iff.mp h).1
  revert tj
  revert j
  decide +kernel, rfl, by decide⟩
theorem lw_RX11_65 : LW RX11 65 5 := ⟨RX5, TX5, 8, tyX5, rfl, List.mem_filter.mpr ⟨List.mem_append_right _ (tbi2 _ (List.mem_of_getElem? (i := 130) rfl)), rfl⟩, List.mem_filter.mpr ⟨List.mem_append_right _ (tbi2 _ (List.mem_of_getElem? (i := 131) rfl)), rfl⟩, List.mem_filter.mpr ⟨List.mem_append_right _ (tbi1 _ (List.mem_of_getElem? (i := 11) rfl)), rfl⟩, tyX5_ok, fun j tj h => by
  have hj : j < 8 := (List.getElem?_eq_some_iff.mp h).1
  revert tj
  revert j
  decide +kernel, rfl, by decide⟩
theorem lw_RX1_9 : LW RX1 9 7 := ⟨RX7, TX7, 7, tyX7, rfl, List.mem_filter.mpr ⟨List.mem_append_right _ (tbi1 _ (List.mem_of_getElem? (i := 165) rfl)), rfl⟩, List.mem_filter.mpr ⟨List.mem_append_right _ (tbi1 _ (List.mem_of_getElem? (i := 166) rfl)), rfl⟩, List.mem_filter.mpr ⟨List.mem_append_right _ (tbi1 _ (List.mem_of_getElem? (i := 6) rfl)), rfl⟩, tyX7_ok, fun j tj h => by
  have hj : j < 7 := (List.getElem?_eq_some_iff.mp h).1
  revert tj
  revert j
  decide +kernel, rfl, by decide⟩
theorem lw_RX1_18 : LW RX1 18 0 := ⟨RX0, TX0, 6, tyX0, rfl, List.mem_filter.mpr ⟨List.mem_append_right _ (tbi1 _ (List.mem_of_getElem? (i := 198) rfl)), rfl⟩, List.mem_filter.mpr ⟨List.mem_append_right _ (tbi1 _ (List.mem_of_getElem? (i := 39) rfl)), rfl⟩, List.mem_filter.mpr ⟨List.mem_append_right _ (tbi1 _ (List.mem_of_getElem? (i := 3) rfl)), rfl⟩, tyX0_ok, fun j tj h => by
  have hj : j < 6 := (List.getElem?_eq_some_iff.mp h).1
  revert tj
  revert j
  decide +kernel, rfl, by decide⟩
theorem lw_RX2_37 : LW RX2 37 0 := ⟨RX0, TX0, 6, tyX0, rfl, List.mem_filter.mpr ⟨List.mem_append_right _ (tbi1 _ (List.mem_of_getElem? (i := 38) rfl)), rfl⟩, List.mem_filter.mpr ⟨List.mem_append_right _ (tbi1 _ (List.mem_of_getElem? (i := 39) rfl)), rfl⟩, List.mem_filter.mpr ⟨List.mem_append_right _ (tbi1 _ (List.mem_of_getElem? (i := 3) rfl)), rfl⟩, tyX0_ok, fun j tj h => by
  have hj : j < 6 := (List.getElem?_eq_some_iff.mp h).1
  revert tj
  revert j
  decide +kernel, rfl, by decide⟩
theorem lw_RX2_44 : LW RX2 44 9 := ⟨RX9, TX9, 6, tyX9, rfl, List.mem_filter.mpr ⟨List.mem_append_right _ (tbi1 _ (List.mem_of_getElem? (i := 73) rfl)), rfl⟩, List.mem_filter.mpr ⟨List.mem_append_right _ (tbi1 _ (List.mem_of_getElem? (i := 74) rfl)), rfl⟩, List.mem_filter.mpr ⟨List.mem_append_right _ (tbi1 _ (List.mem_of_getElem? (i := 4) rfl)), rfl⟩, tyX9_ok, fun j tj h => by
  have hj : j < 6 := (List.getElem?_eq_some_iff.mp h).1
  revert tj
  revert j
  decide +kernel, rfl, by decide⟩
theorem lw_RX8_9 : LW RX8 9 7 := ⟨RX7, TX7, 7, tyX7, rfl, List.mem_filter.mpr ⟨List.mem_append_right _ (tbi1 _ (List.mem_of_getElem? (i := 225) rfl)), rfl⟩, List.mem_filter.mpr ⟨List.mem_append_right _ (tbi1 _ (List.mem_of_getElem? (i := 166) rfl)), rfl⟩, List.mem_filter.mpr ⟨List.mem_append_right _ (tbi1 _ (List.mem_of_getElem? (i := 6) rfl)), rfl⟩, tyX7_ok, fun j tj h => by
  have hj : j < 7 := (List.getElem?_eq_some_iff.mp h).1
  revert tj
  revert j
  decide +kernel, rfl, by decide⟩
theorem lw_RX8_18 : LW RX8 18 9 := ⟨RX9, TX9, 6, tyX9, rfl, List.mem_filter.mpr ⟨List.mem_append_right _ (tbi1 _ (List.mem_of_getElem? (i := 227) rfl)), rfl⟩, List.mem_filter.mpr ⟨List.mem_append_right _ (tbi1 _ (List.mem_of_getElem? (i := 74) rfl)), rfl⟩, List.mem_filter.mpr ⟨List.mem_append_right _ (tbi1 _ (List.mem_of_getElem? (i := 4) rfl)), rfl⟩, tyX9_ok, fun j tj h => by
  have hj : j < 6 := (List.getElem?_eq_some_iff.mp h).1
  revert tj
  revert j
  decide +kernel, rfl, by decide⟩
theorem lo_RX11_1 : LO RX11 1 := ⟨List.mem_filter.mpr ⟨List.mem_append_right _ (tbi1 _ (List.mem_of_getElem? (i := 27) rfl)), rfl⟩, List.mem_filter.mpr ⟨List.mem_append_right _ (tbi1 _ (List.mem_of_getElem? (i := 28) rfl)), rfl⟩, List.mem_filter.mpr ⟨List.mem_append_right _ (tbi1 _ (List.mem_of_getElem? (i := 29) rfl)), rfl⟩⟩
theorem lo_RX0_3 : LO RX0 3 := ⟨List.mem_filter.mpr ⟨List.mem_append_right _ (tbi1 _ (List.mem_of_getElem? (i := 43) rfl)), rfl⟩, List.mem_filter.mpr ⟨List.mem_append_right _ (tbi1 _ (List.mem_of_getElem? (i := 28) rfl)), rfl⟩, List.mem_filter.mpr ⟨List.mem_append_right _ (tbi1 _ (List.mem_of_getElem? (i := 29) rfl)), rfl⟩⟩
theorem lo_RX1_3 : LO RX1 3 := ⟨List.mem_filter.mpr ⟨List.mem_append_right _ (tbi1 _ (List.mem_of_getElem? (i := 164) rfl)), rfl⟩, List.mem_filter.mpr ⟨List.mem_append_right _ (tbi1 _ (List.mem_of_getElem? (i := 28) rfl)), rfl⟩, List.mem_filter.mpr ⟨List.mem_append_right _ (tbi1 _ (List.mem_of_getElem? (i := 29) rfl)), rfl⟩⟩
theorem lo_RX2_3 : LO RX2 3 := ⟨List.mem_filter.mpr ⟨List.mem_append_right _ (tbi1 _ (List.mem_of_getElem? (i := 37) rfl)), rfl⟩, List.mem_filter.mpr ⟨List.mem_append_right _ (tbi1 _ (List.mem_of_getElem? (i := 28) rfl)), rfl⟩, List.mem_filter.mpr ⟨List.mem_append_right _ (tbi1 _ (List.mem_of_getElem? (i := 29) rfl)), rfl⟩⟩
theorem lo_RX3_3 : LO RX3 3 := ⟨List.mem_filter.mpr ⟨List.mem_append_right _ (tbi2 _ (List.mem_of_getElem? (i := 15) rfl)), rfl⟩, List.mem_filter.mpr ⟨List.mem_append_right _ (tbi1 _ (List.mem_of_getElem? (i := 28) rfl)), rfl⟩, List.mem_filter.mpr ⟨List.mem_append_right _ (tbi1 _ (List.mem_of_getElem? (i := 29) rfl)), rfl⟩⟩
theorem lo_RX4_3 : LO RX4 3 := ⟨List.mem_filter.mpr ⟨List.mem_append_right _ (tbi2 _ (List.mem_of_getElem? (i := 94) rfl)), rfl⟩, List.mem_filter.mpr ⟨List.mem_append_right _ (tbi1 _ (List.mem_of_getElem? (i := 28) rfl)), rfl⟩, List.mem_filter.mpr ⟨List.mem_append_right _ (tbi1 _ (List.mem_of_getElem? (i := 29) rfl)), rfl⟩⟩
theorem lo_RX5_3 : LO RX5 3 := ⟨List.mem_filter.mpr ⟨List.mem_append_right _ (tbi2 _ (List.mem_of_getElem? (i := 135) rfl)), rfl⟩, List.mem_filter.mpr ⟨List.mem_append_right _ (tbi1 _ (List.mem_of_getElem? (i := 28) rfl)), rfl⟩, List.mem_filter.mpr ⟨List.mem_append_right _ (tbi1 _ (List.mem_of_getElem? (i := 29) rfl)), rfl⟩⟩
theorem lo_RX6_3 : LO RX6 3 := ⟨List.mem_filter.mpr ⟨List.mem_append_right _ (tbi2 _ (List.mem_of_getElem? (i := 50) rfl)), rfl⟩, List.mem_filter.mpr ⟨List.mem_append_right _ (tbi1 _ (List.mem_of_getElem? (i := 28) rfl)), rfl⟩, List.mem_filter.mpr ⟨List.mem_append_right _ (tbi1 _ (List.mem_of_getElem? (i := 29) rfl)), rfl⟩⟩
theorem lo_RX7_3 : LO RX7 3 := ⟨List.mem_filter.mpr ⟨List.mem_append_right _ (tbi1 _ (List.mem_of_getElem? (i := 170) rfl)), rfl⟩, List.mem_filter.mpr ⟨List.mem_append_right _ (tbi1 _ (List.mem_of_getElem? (i := 28) rfl)), rfl⟩, List.mem_filter.mpr ⟨List.mem_append_right _ (tbi1 _ (List.mem_of_getElem? (i := 29) rfl)), rfl⟩⟩
theorem lo_RX8_3 : LO RX8 3 := ⟨List.mem_filter.mpr ⟨List.mem_append_right _ (tbi1 _ (List.mem_of_getElem? (i := 224) rfl)), rfl⟩, List.mem_filter.mpr ⟨List.mem_append_right _ (tbi1 _ (List.mem_of_getElem? (i := 28) rfl)), rfl⟩, List.mem_filter.mpr ⟨List.mem_append_right _ (tbi1 _ (List.mem_of_getElem? (i := 29) rfl)), rfl⟩⟩
theorem lo_RX9_3 : LO RX9 3 := ⟨List.mem_filter.mpr ⟨List.mem_append_right _ (tbi1 _ (List.mem_of_getElem? (i := 78) rfl)), rfl⟩, List.mem_filter.mpr ⟨List.mem_append_right _ (tbi1 _ (List.mem_of_getElem? (i := 28) rfl)), rfl⟩, List.mem_filter.mpr ⟨List.mem_append_right _ (tbi1 _ (List.mem_of_getElem? (i := 29) rfl)), rfl⟩⟩
theorem lo_RX10_3 : LO RX10 3 := ⟨List.mem_filter.mpr ⟨List.mem_append_right _ (tbi2 _ (List.mem_of_getElem? (i := 169) rfl)), rfl⟩, List.mem_filter.mpr ⟨List.mem_append_right _ (tbi1 _ (List.mem_of_getElem? (i := 28) rfl)), rfl⟩, List.mem_filter.mpr ⟨List.mem_append_right _ (tbi1 _ (List.mem_of_getElem? (i := 29) rfl)), rfl⟩⟩
theorem lo_RX12_1 : LO RX12 1 := ⟨List.mem_filter.mpr ⟨List.mem_append_right _ (tbi6 _ (List.mem_of_getElem? (i := 83) rfl)), rfl⟩, List.mem_filter.mpr ⟨List.mem_append_right _ (tbi1 _ (List.mem_of_getElem? (i := 28) rfl)), rfl⟩, List.mem_filter.mpr ⟨List.mem_append_right _ (tbi1 _ (List.mem_of_getElem? (i := 29) rfl)), rfl⟩⟩
theorem lb_X2_init : LB mX2_init 0 := ⟨List.mem_filter.mpr ⟨List.mem_append_right _ (tbi1 _ (List.mem_of_getElem? (i := 2) rfl)), rfl⟩, List.mem_filter.mpr ⟨List.mem_append_right _ (tbi1 _ (List.mem_of_getElem? (i := 36) rfl)), rfl⟩, ⟨by decide +kernel, by decide +kernel⟩, by decide +kernel, by decide⟩
theorem li_RX11_21 : LI RX11 21 mX2_init := ⟨lb_X2_init, by decide +kernel, List.mem_filter.mpr ⟨List.mem_append_right _ (tbi1 _ (List.mem_of_getElem? (i := 35) rfl)), rfl⟩, rfl, Or.inr ⟨"HoleDeck", List.mem_filter.mpr ⟨List.mem_append_right _ (tbi1 _ (List.mem_of_getElem? (i := 34) rfl)), rfl⟩⟩⟩
theorem lb_X1_init : LB mX1_init 0 := ⟨List.mem_filter.mpr ⟨List.mem_append_right _ (tbi1 _ (List.mem_of_getElem? (i := 5) rfl)), rfl⟩, List.mem_filter.mpr ⟨List.mem_append_right _ (tbi1 _ (List.mem_of_getElem? (i := 163) rfl)), rfl⟩, ⟨by decide +kernel, by decide +kernel⟩, by decide +kernel, by decide⟩
theorem li_RX11_32 : LI RX11 32 mX1_init := ⟨lb_X1_init, by decide +kernel, List.mem_filter.mpr ⟨List.mem_append_right _ (tbi1 _ (List.mem_of_getElem? (i := 162) rfl)), rfl⟩, rfl, Or.inr ⟨"HoleDeck", List.mem_filter.mpr ⟨List.mem_append_right _ (tbi1 _ (List.mem_of_getElem? (i := 161) rfl)), rfl⟩⟩⟩
theorem lb_X8_init : LB mX8_init 0 := ⟨List.mem_filter.mpr ⟨List.mem_append_right _ (tbi1 _ (List.mem_of_getElem? (i := 7) rfl)), rfl⟩, List.mem_filter.mpr ⟨List.mem_append_right _ (tbi1 _ (List.mem_of_getElem? (i := 223) rfl)), rfl⟩, ⟨by decide +kernel, by decide +kernel⟩, by decide +kernel, by decide⟩
theorem li_RX11_39 : LI RX11 39 mX8_init := ⟨lb_X8_init, by decide +kernel, List.mem_filter.mpr ⟨List.mem_append_right _ (tbi1 _ (List.mem_of_getElem? (i := 222) rfl)), rfl⟩, rfl, Or.inr ⟨"HoleDeck", List.mem_filter.mpr ⟨List.mem_append_right _ (tbi1 _ (List.mem_of_getElem? (i := 221) rfl)), rfl⟩⟩⟩
theorem lb_X3_init : LB mX3_init 0 := ⟨List.mem_filter.mpr ⟨List.mem_append_right _ (tbi1 _ (List.mem_of_getElem? (i := 8) rfl)), rfl⟩, List.mem_filter.mpr ⟨List.mem_append_right _ (tbi2 _ (List.mem_of_getElem? (i := 14) rfl)), rfl⟩, ⟨by decide +kernel, by decide +kernel⟩, by decide +kernel, by decide⟩
theorem li_RX11_46 : LI RX11 46 mX3_init := ⟨lb_X3_init, by decide +kernel, List.mem_filter.mpr ⟨List.mem_append_right _ (tbi2 _ (List.mem_of_getElem? (i := 13) rfl)), rfl⟩, rfl, Or.inr ⟨"HoleDeck", List.mem_filter.mpr ⟨List.mem_append_right _ (tbi2 _ (List.mem_of_getElem? (i := 12) rfl)), rfl⟩⟩⟩
theorem lb_X6_init : LB mX6_init 0 := ⟨List.mem_filter.mpr ⟨List.mem_append_right _ (tbi1 _ (List.mem_of_getElem? (i := 9) rfl)), rfl⟩, List.mem_filter.mpr ⟨List.mem_append_right _ (tbi2 _ (List.mem_of_getElem? (i := 49) rfl)), rfl⟩, ⟨by decide +kernel, by decide +kernel⟩, by decide +kernel, by decide⟩
theorem li_RX11_53 : LI RX11 53 mX6_init := ⟨lb_X6_init, by decide +kernel, List.mem_filter.mpr ⟨List.mem_append_right _ (tbi2 _ (List.mem_of_getElem? (i := 48) rfl)), rfl⟩, rfl, Or.inr ⟨"HoleDeck", List.mem_filter.mpr ⟨List.mem_append_right _ (tbi2 _ (List.mem_of_getElem? (i := 47) rfl)), rfl⟩⟩⟩
theorem lb_X4_init : LB mX4_init 0 := ⟨List.mem_filter.mpr ⟨List.mem_append_right _ (tbi1 _ (List.mem_of_getElem? (i := 10) rfl)), rfl⟩, List.mem_filter.mpr ⟨List.mem_append_right _ (tbi2 _ (List.mem_of_getElem? (i := 93) rfl)), rfl⟩, ⟨by decide +kernel, by decide +kernel⟩, by decide +kernel, by decide⟩
theorem li_RX11_60 : LI RX11 60 mX4_init := ⟨lb_X4_init, by decide +kernel, List.mem_filter.mpr ⟨List.mem_append_right _ (tbi2 _ (List.mem_of_getElem? (i := 92) rfl)), rfl⟩, rfl, Or.inr ⟨"HoleDeck", List.mem_filter.mpr ⟨List.mem_append_right _ (tbi2 _ (List.mem_of_getElem? (i := 91) rfl)), rfl⟩⟩⟩
theorem lb_X5_init : LB mX5_init 0 := ⟨List.mem_filter.mpr ⟨List.mem_append_right _ (tbi1 _ (List.mem_of_getElem? (i := 11) rfl)), rfl⟩, List.mem_filter.mpr ⟨List.mem_append_right _ (tbi2 _ (List.mem_of_getElem? (i := 134) rfl)), rfl⟩, ⟨by decide +kernel, by decide +kernel⟩, by decide +kernel, by decide⟩
theorem li_RX11_67 : LI RX11 67 mX5_init := ⟨lb_X5_init, by decide +kernel, List.mem_filter.mpr ⟨List.mem_append_right _ (tbi2 _ (List.mem_of_getElem? (i := 133) rfl)), rfl⟩, rfl, Or.inr ⟨"HoleDeck", List.mem_filter.mpr ⟨List.mem_append_right _ (tbi2 _ (List.mem_of_getElem? (i := 132) rfl)), rfl⟩⟩⟩
theorem lb_X10_init : LB mX10_init 0 := ⟨List.mem_filter.mpr ⟨List.mem_append_right _ (tbi1 _ (List.mem_of_getElem? (i := 12) rfl)), rfl⟩, List.mem_filter.mpr ⟨List.mem_append_right _ (tbi2 _ (List.mem_of_getElem? (i := 168) rfl)), rfl⟩, ⟨by decide +kernel, by decide +kernel⟩, by decide +kernel, by decide⟩
theorem li_RX11_95 : LI RX11 95 mX10_init := ⟨lb_X10_init, by decide +kernel, List.mem_filter.mpr ⟨List.mem_append_right _ (tbi2 _ (List.mem_of_getElem? (i := 167) rfl)), rfl⟩, rfl, Or.inr ⟨"HoleDeck", List.mem_filter.mpr ⟨List.mem_append_right _ (tbi2 _ (List.mem_of_getElem? (i := 166) rfl)), rfl⟩⟩⟩
theorem lb_X7_init : LB mX7_init 0 := ⟨List.mem_filter.mpr ⟨List.mem_append_right _ (tbi1 _ (List.mem_of_getElem? (i := 6) rfl)), rfl⟩, List.mem_filter.mpr ⟨List.mem_append_right _ (tbi1 _ (List.mem_of_getElem? (i := 169) rfl)), rfl⟩, ⟨by decide +kernel, by decide +kernel⟩, by decide +kernel, by decide⟩
theorem li_RX1_11 : LI RX1 11 mX7_init := ⟨lb_X7_init, by decide +kernel, List.mem_filter.mpr ⟨List.mem_append_right _ (tbi1 _ (List.mem_of_getElem? (i := 168) rfl)), rfl⟩, rfl, Or.inr ⟨"HoleDeck", List.mem_filter.mpr ⟨List.mem_append_right _ (tbi1 _ (List.mem_of_getElem? (i := 167) rfl)), rfl⟩⟩⟩
theorem lb_X0_init : LB mX0_init 0 := ⟨List.mem_filter.mpr ⟨List.mem_append_right _ (tbi1 _ (List.mem_of_getElem? (i := 3) rfl)), rfl⟩, List.mem_filter.mpr ⟨List.mem_append_right _ (tbi1 _ (List.mem_of_getElem? (i := 42) rfl)), rfl⟩, ⟨by decide +kernel, by decide +kernel⟩, by decide +kernel, by decide⟩
theorem li_RX1_20 : LI RX1 20 mX0_init := ⟨lb_X0_init, by decide +kernel, List.mem_filter.mpr ⟨List.mem_append_right _ (tbi1 _ (List.mem_of_getElem? (i := 41) rfl)), rfl⟩, rfl, Or.inr ⟨"HoleDeck", List.mem_filter.mpr ⟨List.mem_append_right _ (tbi1 _ (List.mem_of_getElem? (i := 199) rfl)), rfl⟩⟩⟩
theorem li_RX2_39 : LI RX2 39 mX0_init := ⟨lb_X0_init, by decide +kernel, List.mem_filter.mpr ⟨List.mem_append_right _ (tbi1 _ (List.mem_of_getElem? (i := 41) rfl)), rfl⟩, rfl, Or.inr ⟨"HoleDeck", List.mem_filter.mpr ⟨List.mem_append_right _ (tbi1 _ (List.mem_of_getElem? (i := 40) rfl)), rfl⟩⟩⟩
theorem lb_X9_init : LB mX9_init 0 := ⟨List.mem_filter.mpr ⟨List.mem_append_right _ (tbi1 _ (List.mem_of_getElem? (i := 4) rfl)), rfl⟩, List.mem_filter.mpr ⟨List.mem_append_right _ (tbi1 _ (List.mem_of_getElem? (i := 77) rfl)), rfl⟩, ⟨by decide +kernel, by decide +kernel⟩, by decide +kernel, by decide⟩
theorem li_RX2_46 : LI RX2 46 mX9_init := ⟨lb_X9_init, by decide +kernel, List.mem_filter.mpr ⟨List.mem_append_right _ (tbi1 _ (List.mem_of_getElem? (i := 76) rfl)), rfl⟩, rfl, Or.inr ⟨"HoleDeck", List.mem_filter.mpr ⟨List.mem_append_right _ (tbi1 _ (List.mem_of_getElem? (i := 75) rfl)), rfl⟩⟩⟩
theorem li_RX8_11 : LI RX8 11 mX7_init := ⟨lb_X7_init, by decide +kernel, List.mem_filter.mpr ⟨List.mem_append_right _ (tbi1 _ (List.mem_of_getElem? (i := 168) rfl)), rfl⟩, rfl, Or.inr ⟨"HoleDeck", List.mem_filter.mpr ⟨List.mem_append_right _ (tbi1 _ (List.mem_of_getElem? (i := 226) rfl)), rfl⟩⟩⟩
theorem li_RX8_20 : LI RX8 20 mX9_init := ⟨lb_X9_init, by decide +kernel, List.mem_filter.mpr ⟨List.mem_append_right _ (tbi1 _ (List.mem_of_getElem? (i := 76) rfl)), rfl⟩, rfl, Or.inr ⟨"HoleDeck", List.mem_filter.mpr ⟨List.mem_append_right _ (tbi1 _ (List.mem_of_getElem? (i := 228) rfl)), rfl⟩⟩⟩
theorem aw_int : Cond.arrayClass .int ∈ lw_good := List.mem_filter.mpr ⟨List.mem_append_right _ (tbi1 _ (List.mem_of_getElem? (i := 72) rfl)), rfl⟩
theorem aw_long : Cond.arrayClass .long ∈ lw_good := List.mem_filter.mpr ⟨List.mem_append_right _ (tbi1 _ (List.mem_of_getElem? (i := 218) rfl)), rfl⟩
theorem aw_byte : Cond.arrayClass .byte ∈ lw_good := List.mem_filter.mpr ⟨List.mem_append_right _ (tbi4 _ (List.mem_of_getElem? (i := 93) rfl)), rfl⟩
theorem dX0_init_0 : DD mX0_init 0 (.aload_n 0) 1 1 := ⟨by decide +kernel, rfl⟩
theorem dX0_init_1 : DD mX0_init 1 (.invokespecial 3) 3 4 := ⟨by decide +kernel, rfl⟩
theorem dX0_init_4 : DD mX0_init 4 (.aload_n 0) 1 5 := ⟨by decide +kernel, rfl⟩
theorem dX0_init_5 : DD mX0_init 5 (.iconst 0) 1 6 := ⟨by decide +kernel, rfl⟩
theorem dX0_init_6 : DD mX0_init 6 (.putfield 9) 3 9 := ⟨by decide +kernel, rfl⟩
theorem dX0_init_9 : DD mX0_init 9 (.aload_n 0) 1 10 := ⟨by decide +kernel, rfl⟩
theorem dX0_init_10 : DD mX0_init 10 (.iconst 0) 1 11 := ⟨by decide +kernel, rfl⟩
theorem dX0_init_11 : DD mX0_init 11 (.putfield 15) 3 14 := ⟨by decide +kernel, rfl⟩
theorem dX0_init_14 : DD mX0_init 14 (.aload_n 0) 1 15 := ⟨by decide +kernel, rfl⟩
theorem dX0_init_15 : DD mX0_init 15 (.iconst 4) 1 16 := ⟨by decide +kernel, rfl⟩
theorem dX0_init_16 : DD mX0_init 16 (.newarray .int) 2 18 := ⟨by decide +kernel, rfl⟩
theorem dX0_init_18 : DD mX0_init 18 (.putfield 18) 3 21 := ⟨by decide +kernel, rfl⟩
theorem dX0_init_21 : DD mX0_init 21 (.aload_n 0) 1 22 := ⟨by decide +kernel, rfl⟩
theorem dX0_init_22 : DD mX0_init 22 (.bipush 20) 2 24 := ⟨by decide +kernel, rfl⟩
theorem dX0_init_24 : DD mX0_init 24 (.newarray .int) 2 26 := ⟨by decide +kernel, rfl⟩
theorem dX0_init_26 : DD mX0_init 26 (.putfield 22) 3 29 := ⟨by decide +kernel, rfl⟩
theorem dX0_init_29 : DD mX0_init 29 (.aload_n 0) 1 30 := ⟨by decide +kernel, rfl⟩
theorem dX0_init_30 : DD mX0_init 30 (.bipush 20) 2 32 := ⟨by decide +kernel, rfl⟩
theorem dX0_init_32 : DD mX0_init 32 (.newarray .int) 2 34 := ⟨by decide +kernel, rfl⟩
theorem dX0_init_34 : DD mX0_init 34 (.putfield 25) 3 37 := ⟨by decide +kernel, rfl⟩
theorem dX0_init_37 : DD mX0_init 37 (.aload_n 0) 1 38 := ⟨by decide +kernel, rfl⟩
theorem dX0_init_38 : DD mX0_init 38 (.bipush 80) 2 40 := ⟨by decide +kernel, rfl⟩
theorem dX0_init_40 : DD mX0_init 40 (.newarray .int) 2 42 := ⟨by decide +kernel, rfl⟩
theorem dX0_init_42 : DD mX0_init 42 (.putfield 28) 3 45 := ⟨by decide +kernel, rfl⟩
theorem dX0_init_45 : DD mX0_init 45 .return_ 1 46 := ⟨by decide +kernel, rfl⟩
theorem dX9_init_0 : DD mX9_init 0 (.aload_n 0) 1 1 := ⟨by decide +kernel, rfl⟩
theorem dX9_init_1 : DD mX9_init 1 (.invokespecial 3) 3 4 := ⟨by decide +kernel, rfl⟩
theorem dX9_init_4 : DD mX9_init 4 (.aload_n 0) 1 5 := ⟨by decide +kernel, rfl⟩
theorem dX9_init_5 : DD mX9_init 5 (.iconst 0) 1 6 := ⟨by decide +kernel, rfl⟩
theorem dX9_init_6 : DD mX9_init 6 (.putfield 9) 3 9 := ⟨by decide +kernel, rfl⟩
theorem dX9_init_9 : DD mX9_init 9 (.aload_n 0) 1 10 := ⟨by decide +kernel, rfl⟩
theorem dX9_init_10 : DD mX9_init 10 (.iconst 0) 1 11 := ⟨by decide +kernel, rfl⟩
theorem dX9_init_11 : DD mX9_init 11 (.putfield 15) 3 14 := ⟨by decide +kernel, rfl⟩
theorem dX9_init_14 : DD mX9_init 14 (.aload_n 0) 1 15 := ⟨by decide +kernel, rfl⟩
theorem dX9_init_15 : DD mX9_init 15 (.bipush 80) 2 17 := ⟨by decide +kernel, rfl⟩
theorem dX9_init_17 : DD mX9_init 17 (.newarray .int) 2 19 := ⟨by decide +kernel, rfl⟩
theorem dX9_init_19 : DD mX9_init 19 (.putfield 18) 3 22 := ⟨by decide +kernel, rfl⟩
theorem dX9_init_22 : DD mX9_init 22 (.aload_n 0) 1 23 := ⟨by decide +kernel, rfl⟩
theorem dX9_init_23 : DD mX9_init 23 (.bipush 80) 2 25 := ⟨by decide +kernel, rfl⟩
theorem dX9_init_25 : DD mX9_init 25 (.newarray .int) 2 27 := ⟨by decide +kernel, rfl⟩
theorem dX9_init_27 : DD mX9_init 27 (.putfield 22) 3 30 := ⟨by decide +kernel, rfl⟩
theorem dX9_init_30 : DD mX9_init 30 (.aload_n 0) 1 31 := ⟨by decide +kernel, rfl⟩
theorem dX9_init_31 : DD mX9_init 31 (.bipush 80) 2 33 := ⟨by decide +kernel, rfl⟩
theorem dX9_init_33 : DD mX9_init 33 (.newarray .int) 2 35 := ⟨by decide +kernel, rfl⟩
theorem dX9_init_35 : DD mX9_init 35 (.putfield 25) 3 38 := ⟨by decide +kernel, rfl⟩
theorem dX9_init_38 : DD mX9_init 38 (.aload_n 0) 1 39 := ⟨by decide +kernel, rfl⟩
theorem dX9_init_39 : DD mX9_init 39 (.bipush 80) 2 41 := ⟨by decide +kernel, rfl⟩
theorem dX9_init_41 : DD mX9_init 41 (.newarray .int) 2 43 := ⟨by decide +kernel, rfl⟩
theorem dX9_init_43 : DD mX9_init 43 (.putfield 28) 3 46 := ⟨by decide +kernel, rfl⟩
theorem dX9_init_46 : DD mX9_init 46 .return_ 1 47 := ⟨by decide +kernel, rfl⟩
theorem dX7_init_0 : DD mX7_init 0 (.aload_n 0) 1 1 := ⟨by decide +kernel, rfl⟩
theorem dX7_init_1 : DD mX7_init 1 (.invokespecial 3) 3 4 := ⟨by decide +kernel, rfl⟩
theorem dX7_init_4 : DD mX7_init 4 (.aload_n 0) 1 5 := ⟨by decide +kernel, rfl⟩
theorem dX7_init_5 : DD mX7_init 5 (.iconst 0) 1 6 := ⟨by decide +kernel, rfl⟩
theorem dX7_init_6 : DD mX7_init 6 (.newarray .int) 2 8 := ⟨by decide +kernel, rfl⟩
theorem dX7_init_8 : DD mX7_init 8 (.putfield 9) 3 11 := ⟨by decide +kernel, rfl⟩
theorem dX7_init_11 : DD mX7_init 11 (.aload_n 0) 1 12 := ⟨by decide +kernel, rfl⟩
theorem dX7_init_12 : DD mX7_init 12 (.iconst 0) 1 13 := ⟨by decide +kernel, rfl⟩
theorem dX7_init_13 : DD mX7_init 13 (.putfield 15) 3 16 := ⟨by decide +kernel, rfl⟩
theorem dX7_init_16 : DD mX7_init 16 (.aload_n 0) 1 17 := ⟨by decide +kernel, rfl⟩
theorem dX7_init_17 : DD mX7_init 17 (.iconst 0) 1 18 := ⟨by decide +kernel, rfl⟩
theorem dX7_init_18 : DD mX7_init 18 (.putfield 19) 3 21 := ⟨by decide +kernel, rfl⟩
theorem dX7_init_21 : DD mX7_init 21 (.aload_n 0) 1 22 := ⟨by decide +kernel, rfl⟩
theorem dX7_init_22 : DD mX7_init 22 (.iconst 0) 1 23 := ⟨by decide +kernel, rfl⟩
theorem dX7_init_23 : DD mX7_init 23 (.putfield 22) 3 26 := ⟨by decide +kernel, rfl⟩
theorem dX7_init_26 : DD mX7_init 26 (.aload_n 0) 1 27 := ⟨by decide +kernel, rfl⟩
theorem dX7_init_27 : DD mX7_init 27 (.iconst 0) 1 28 := ⟨by decide +kernel, rfl⟩
theorem dX7_init_28 : DD mX7_init 28 (.putfield 25) 3 31 := ⟨by decide +kernel, rfl⟩
theorem dX7_init_31 : DD mX7_init 31 (.aload_n 0) 1 32 := ⟨by decide +kernel, rfl⟩
theorem dX7_init_32 : DD mX7_init 32 (.iconst 0) 1 33 := ⟨by decide +kernel, rfl⟩
theorem dX7_init_33 : DD mX7_init 33 (.putfield 28) 3 36 := ⟨by decide +kernel, rfl⟩
theorem dX7_init_36 : DD mX7_init 36 (.aload_n 0) 1 37 := ⟨by decide +kernel, rfl⟩
theorem dX7_init_37 : DD mX7_init 37 (.iconst (-1)) 1 38 := ⟨by decide +kernel, rfl⟩
theorem dX7_init_38 : DD mX7_init 38 (.putfield 31) 3 41 := ⟨by decide +kernel, rfl⟩
theorem dX7_init_41 : DD mX7_init 41 .return_ 1 42 := ⟨by decide +kernel, rfl⟩
theorem dX10_init_0 : DD mX10_init 0 (.aload_n 0) 1 1 := ⟨by decide +kernel, rfl⟩
theorem dX10_init_1 : DD mX10_init 1 (.invokespecial 3) 3 4 := ⟨by decide +kernel, rfl⟩
theorem dX10_init_4 : DD mX10_init 4 (.aload_n 0) 1 5 := ⟨by decide +kernel, rfl⟩
theorem dX10_init_5 : DD mX10_init 5 (.iconst 1) 1 6 := ⟨by decide +kernel, rfl⟩
theorem dX10_init_6 : DD mX10_init 6 (.putfield 9) 3 9 := ⟨by decide +kernel, rfl⟩
theorem dX10_init_9 : DD mX10_init 9 (.aload_n 0) 1 10 := ⟨by decide +kernel, rfl⟩
theorem dX10_init_10 : DD mX10_init 10 (.iconst 0) 1 11 := ⟨by decide +kernel, rfl⟩
theorem dX10_init_11 : DD mX10_init 11 (.putfield 15) 3 14 := ⟨by decide +kernel, rfl⟩
theorem dX10_init_14 : DD mX10_init 14 (.aload_n 0) 1 15 := ⟨by decide +kernel, rfl⟩
theorem dX10_init_15 : DD mX10_init 15 (.iconst 0) 1 16 := ⟨by decide +kernel, rfl⟩
theorem dX10_init_16 : DD mX10_init 16 (.putfield 19) 3 19 := ⟨by decide +kernel, rfl⟩
theorem dX10_init_19 : DD mX10_init 19 (.aload_n 0) 1 20 := ⟨by decide +kernel, rfl⟩
theorem dX10_init_20 : DD mX10_init 20 (.bipush 60) 2 22 := ⟨by decide +kernel, rfl⟩
theorem dX10_init_22 : DD mX10_init 22 (.newarray .long) 2 24 := ⟨by decide +kernel, rfl⟩
theorem dX10_init_24 : DD mX10_init 24 (.putfield 22) 3 27 := ⟨by decide +kernel, rfl⟩
theorem dX10_init_27 : DD mX10_init 27 .return_ 1 28 := ⟨by decide +kernel, rfl⟩
theorem dX3_init_0 : DD mX3_init 0 (.aload_n 0) 1 1 := ⟨by decide +kernel, rfl⟩
theorem dX3_init_1 : DD mX3_init 1 (.invokespecial 3) 3 4 := ⟨by decide +kernel, rfl⟩
theorem dX3_init_4 : DD mX3_init 4 (.aload_n 0) 1 5 := ⟨by decide +kernel, rfl⟩
theorem dX3_init_5 : DD mX3_init 5 (.bipush 30) 2 7 := ⟨by decide +kernel, rfl⟩
theorem dX3_init_7 : DD mX3_init 7 (.newarray .int) 2 9 := ⟨by decide +kernel, rfl⟩
theorem dX3_init_9 : DD mX3_init 9 (.putfield 9) 3 12 := ⟨by decide +kernel, rfl⟩
theorem dX3_init_12 : DD mX3_init 12 (.aload_n 0) 1 13 := ⟨by decide +kernel, rfl⟩
theorem dX3_init_13 : DD mX3_init 13 (.bipush 13) 2 15 := ⟨by decide +kernel, rfl⟩
theorem dX3_init_15 : DD mX3_init 15 (.newarray .int) 2 17 := ⟨by decide +kernel, rfl⟩
theorem dX3_init_17 : DD mX3_init 17 (.putfield 15) 3 20 := ⟨by decide +kernel, rfl⟩
theorem dX3_init_20 : DD mX3_init 20 (.aload_n 0) 1 21 := ⟨by decide +kernel, rfl⟩
theorem dX3_init_21 : DD mX3_init 21 (.bipush 80) 2 23 := ⟨by decide +kernel, rfl⟩
theorem dX3_init_23 : DD mX3_init 23 (.newarray .int) 2 25 := ⟨by decide +kernel, rfl⟩
theorem dX3_init_25 : DD mX3_init 25 (.putfield 20) 3 28 := ⟨by decide +kernel, rfl⟩
theorem dX3_init_28 : DD mX3_init 28 (.aload_n 0) 1 29 := ⟨by decide +kernel, rfl⟩
theorem dX3_init_29 : DD mX3_init 29 (.iconst 0) 1 30 := ⟨by decide +kernel, rfl⟩
theorem dX3_init_30 : DD mX3_init 30 (.putfield 23) 3 33 := ⟨by decide +kernel, rfl⟩
theorem dX3_init_33 : DD mX3_init 33 (.aload_n 0) 1 34 := ⟨by decide +kernel, rfl⟩
theorem dX3_init_34 : DD mX3_init 34 (.lconst 0) 1 35 := ⟨by decide +kernel, rfl⟩
theorem dX3_init_35 : DD mX3_init 35 (.putfield 27) 3 38 := ⟨by decide +kernel, rfl⟩
theorem dX3_init_38 : DD mX3_init 38 (.aload_n 0) 1 39 := ⟨by decide +kernel, rfl⟩
theorem dX3_init_39 : DD mX3_init 39 (.iconst 0) 1 40 := ⟨by decide +kernel, rfl⟩
theorem dX3_init_40 : DD mX3_init 40 (.putfield 31) 3 43 := ⟨by decide +kernel, rfl⟩
theorem dX3_init_43 : DD mX3_init 43 (.aload_n 0) 1 44 := ⟨by decide +kernel, rfl⟩
theorem dX3_init_44 : DD mX3_init 44 (.iconst 0) 1 45 := ⟨by decide +kernel, rfl⟩
theorem dX3_init_45 : DD mX3_init 45 (.putfield 35) 3 48 := ⟨by decide +kernel, rfl⟩
theorem dX3_init_48 : DD mX3_init 48 (.aload_n 0) 1 49 := ⟨by decide +kernel, rfl⟩
theorem dX3_init_49 : DD mX3_init 49 (.iconst 0) 1 50 := ⟨by decide +kernel, rfl⟩
theorem dX3_init_50 : DD mX3_init 50 (.putfield 38) 3 53 := ⟨by decide +kernel, rfl⟩
theorem dX3_init_53 : DD mX3_init 53 .return_ 1 54 := ⟨by decide +kernel, rfl⟩
theorem dX4_init_0 : DD mX4_init 0 (.aload_n 0) 1 1 := ⟨by decide +kernel, rfl⟩
theorem dX4_init_1 : DD mX4_init 1 (.invokespecial 3) 3 4 := ⟨by decide +kernel, rfl⟩
theorem dX4_init_4 : DD mX4_init 4 (.aload_n 0) 1 5 := ⟨by decide +kernel, rfl⟩
theorem dX4_init_5 : DD mX4_init 5 (.iconst 0) 1 6 := ⟨by decide +kernel, rfl⟩
theorem dX4_init_6 : DD mX4_init 6 (.putfield 9) 3 9 := ⟨by decide +kernel, rfl⟩
theorem dX4_init_9 : DD mX4_init 9 (.aload_n 0) 1 10 := ⟨by decide +kernel, rfl⟩
theorem dX4_init_10 : DD mX4_init 10 (.iconst 0) 1 11 := ⟨by decide +kernel, rfl⟩
theorem dX4_init_11 : DD mX4_init 11 (.putfield 15) 3 14 := ⟨by decide +kernel, rfl⟩
theorem dX4_init_14 : DD mX4_init 14 (.aload_n 0) 1 15 := ⟨by decide +kernel, rfl⟩
theorem dX4_init_15 : DD mX4_init 15 (.iconst 0) 1 16 := ⟨by decide +kernel, rfl⟩
theorem dX4_init_16 : DD mX4_init 16 (.putfield 19) 3 19 := ⟨by decide +kernel, rfl⟩
theorem dX4_init_19 : DD mX4_init 19 (.aload_n 0) 1 20 := ⟨by decide +kernel, rfl⟩
theorem dX4_init_20 : DD mX4_init 20 (.iconst 4) 1 21 := ⟨by decide +kernel, rfl⟩
theorem dX4_init_21 : DD mX4_init 21 (.newarray .int) 2 23 := ⟨by decide +kernel, rfl⟩
theorem dX4_init_23 : DD mX4_init 23 (.putfield 22) 3 26 := ⟨by decide +kernel, rfl⟩
theorem dX4_init_26 : DD mX4_init 26 (.aload_n 0) 1 27 := ⟨by decide +kernel, rfl⟩
theorem dX4_init_27 : DD mX4_init 27 (.iconst 4) 1 28 := ⟨by decide +kernel, rfl⟩
theorem dX4_init_28 : DD mX4_init 28 (.newarray .int) 2 30 := ⟨by decide +kernel, rfl⟩
theorem dX4_init_30 : DD mX4_init 30 (.putfield 26) 3 33 := ⟨by decide +kernel, rfl⟩
theorem dX4_init_33 : DD mX4_init 33 (.aload_n 0) 1 34 := ⟨by decide +kernel, rfl⟩
theorem dX4_init_34 : DD mX4_init 34 (.bipush 13) 2 36 := ⟨by decide +kernel, rfl⟩
theorem dX4_init_36 : DD mX4_init 36 (.newarray .long) 2 38 := ⟨by decide +kernel, rfl⟩
theorem dX4_init_38 : DD mX4_init 38 (.putfield 29) 3 41 := ⟨by decide +kernel, rfl⟩
theorem dX4_init_41 : DD mX4_init 41 (.aload_n 0) 1 42 := ⟨by decide +kernel, rfl⟩
theorem dX4_init_42 : DD mX4_init 42 (.bipush 30) 2 44 := ⟨by decide +kernel, rfl⟩
theorem dX4_init_44 : DD mX4_init 44 (.newarray .int) 2 46 := ⟨by decide +kernel, rfl⟩
theorem dX4_init_46 : DD mX4_init 46 (.putfield 33) 3 49 := ⟨by decide +kernel, rfl⟩
theorem dX4_init_49 : DD mX4_init 49 (.aload_n 0) 1 50 := ⟨by decide +kernel, rfl⟩
theorem dX4_init_50 : DD mX4_init 50 (.bipush 30) 2 52 := ⟨by decide +kernel, rfl⟩
theorem dX4_init_52 : DD mX4_init 52 (.newarray .int) 2 54 := ⟨by decide +kernel, rfl⟩
theorem dX4_init_54 : DD mX4_init 54 (.putfield 36) 3 57 := ⟨by decide +kernel, rfl⟩
theorem dX4_init_57 : DD mX4_init 57 (.aload_n 0) 1 58 := ⟨by decide +kernel, rfl⟩
theorem dX4_init_58 : DD mX4_init 58 (.iconst 0) 1 59 := ⟨by decide +kernel, rfl⟩
theorem dX4_init_59 : DD mX4_init 59 (.putfield 39) 3 62 := ⟨by decide +kernel, rfl⟩
theorem dX4_init_62 : DD mX4_init 62 (.aload_n 0) 1 63 := ⟨by decide +kernel, rfl⟩
theorem dX4_init_63 : DD mX4_init 63 (.iconst (-1)) 1 64 := ⟨by decide +kernel, rfl⟩
theorem dX4_init_64 : DD mX4_init 64 (.putfield 42) 3 67 := ⟨by decide +kernel, rfl⟩
theorem dX4_init_67 : DD mX4_init 67 .return_ 1 68 := ⟨by decide +kernel, rfl⟩
theorem dX5_init_0 : DD mX5_init 0 (.aload_n 0) 1 1 := ⟨by decide +kernel, rfl⟩
theorem dX5_init_1 : DD mX5_init 1 (.invokespecial 3) 3 4 := ⟨by decide +kernel, rfl⟩
theorem dX5_init_4 : DD mX5_init 4 (.aload_n 0) 1 5 := ⟨by decide +kernel, rfl⟩
theorem dX5_init_5 : DD mX5_init 5 (.iconst 0) 1 6 := ⟨by decide +kernel, rfl⟩
theorem dX5_init_6 : DD mX5_init 6 (.putfield 9) 3 9 := ⟨by decide +kernel, rfl⟩
theorem dX5_init_9 : DD mX5_init 9 (.aload_n 0) 1 10 := ⟨by decide +kernel, rfl⟩
theorem dX5_init_10 : DD mX5_init 10 (.iconst 0) 1 11 := ⟨by decide +kernel, rfl⟩
theorem dX5_init_11 : DD mX5_init 11 (.putfield 15) 3 14 := ⟨by decide +kernel, rfl⟩
theorem dX5_init_14 : DD mX5_init 14 (.aload_n 0) 1 15 := ⟨by decide +kernel, rfl⟩
theorem dX5_init_15 : DD mX5_init 15 (.iconst 0) 1 16 := ⟨by decide +kernel, rfl⟩
theorem dX5_init_16 : DD mX5_init 16 (.putfield 19) 3 19 := ⟨by decide +kernel, rfl⟩
theorem dX5_init_19 : DD mX5_init 19 (.aload_n 0) 1 20 := ⟨by decide +kernel, rfl⟩
theorem dX5_init_20 : DD mX5_init 20 (.bipush 30) 2 22 := ⟨by decide +kernel, rfl⟩
theorem dX5_init_22 : DD mX5_init 22 (.newarray .int) 2 24 := ⟨by decide +kernel, rfl⟩
theorem dX5_init_24 : DD mX5_init 24 (.putfield 22) 3 27 := ⟨by decide +kernel, rfl⟩
theorem dX5_init_27 : DD mX5_init 27 (.aload_n 0) 1 28 := ⟨by decide +kernel, rfl⟩
theorem dX5_init_28 : DD mX5_init 28 (.bipush 31) 2 30 := ⟨by decide +kernel, rfl⟩
theorem dX5_init_30 : DD mX5_init 30 (.newarray .int) 2 32 := ⟨by decide +kernel, rfl⟩
theorem dX5_init_32 : DD mX5_init 32 (.putfield 26) 3 35 := ⟨by decide +kernel, rfl⟩
theorem dX5_init_35 : DD mX5_init 35 (.aload_n 0) 1 36 := ⟨by decide +kernel, rfl⟩
theorem dX5_init_36 : DD mX5_init 36 (.bipush 31) 2 38 := ⟨by decide +kernel, rfl⟩
theorem dX5_init_38 : DD mX5_init 38 (.newarray .int) 2 40 := ⟨by decide +kernel, rfl⟩
theorem dX5_init_40 : DD mX5_init 40 (.putfield 29) 3 43 := ⟨by decide +kernel, rfl⟩
theorem dX5_init_43 : DD mX5_init 43 (.aload_n 0) 1 44 := ⟨by decide +kernel, rfl⟩
theorem dX5_init_44 : DD mX5_init 44 (.bipush 31) 2 46 := ⟨by decide +kernel, rfl⟩
theorem dX5_init_46 : DD mX5_init 46 (.newarray .int) 2 48 := ⟨by decide +kernel, rfl⟩
theorem dX5_init_48 : DD mX5_init 48 (.putfield 32) 3 51 := ⟨by decide +kernel, rfl⟩
theorem dX5_init_51 : DD mX5_init 51 (.aload_n 0) 1 52 := ⟨by decide +kernel, rfl⟩
theorem dX5_init_52 : DD mX5_init 52 (.bipush 31) 2 54 := ⟨by decide +kernel, rfl⟩
theorem dX5_init_54 : DD mX5_init 54 (.newarray .int) 2 56 := ⟨by decide +kernel, rfl⟩
theorem dX5_init_56 : DD mX5_init 56 (.putfield 35) 3 59 := ⟨by decide +kernel, rfl⟩
theorem dX5_init_59 : DD mX5_init 59 .return_ 1 60 := ⟨by decide +kernel, rfl⟩
theorem dX6_init_0 : DD mX6_init 0 (.aload_n 0) 1 1 := ⟨by decide +kernel, rfl⟩
theorem dX6_init_1 : DD mX6_init 1 (.invokespecial 3) 3 4 := ⟨by decide +kernel, rfl⟩
theorem dX6_init_4 : DD mX6_init 4 (.aload_n 0) 1 5 := ⟨by decide +kernel, rfl⟩
theorem dX6_init_5 : DD mX6_init 5 (.iconst 4) 1 6 := ⟨by decide +kernel, rfl⟩
theorem dX6_init_6 : DD mX6_init 6 (.newarray .int) 2 8 := ⟨by decide +kernel, rfl⟩
theorem dX6_init_8 : DD mX6_init 8 (.putfield 9) 3 11 := ⟨by decide +kernel, rfl⟩
theorem dX6_init_11 : DD mX6_init 11 (.aload_n 0) 1 12 := ⟨by decide +kernel, rfl⟩
theorem dX6_init_12 : DD mX6_init 12 (.iconst 0) 1 13 := ⟨by decide +kernel, rfl⟩
theorem dX6_init_13 : DD mX6_init 13 (.putfield 15) 3 16 := ⟨by decide +kernel, rfl⟩
theorem dX6_init_16 : DD mX6_init 16 (.aload_n 0) 1 17 := ⟨by decide +kernel, rfl⟩
theorem dX6_init_17 : DD mX6_init 17 (.bipush 30) 2 19 := ⟨by decide +kernel, rfl⟩
theorem dX6_init_19 : DD mX6_init 19 (.newarray .int) 2 21 := ⟨by decide +kernel, rfl⟩
theorem dX6_init_21 : DD mX6_init 21 (.putfield 19) 3 24 := ⟨by decide +kernel, rfl⟩
theorem dX6_init_24 : DD mX6_init 24 (.aload_n 0) 1 25 := ⟨by decide +kernel, rfl⟩
theorem dX6_init_25 : DD mX6_init 25 (.iconst 4) 1 26 := ⟨by decide +kernel, rfl⟩
theorem dX6_init_26 : DD mX6_init 26 (.newarray .int) 2 28 := ⟨by decide +kernel, rfl⟩
theorem dX6_init_28 : DD mX6_init 28 (.putfield 22) 3 31 := ⟨by decide +kernel, rfl⟩
theorem dX6_init_31 : DD mX6_init 31 (.aload_n 0) 1 32 := ⟨by decide +kernel, rfl⟩
theorem dX6_init_32 : DD mX6_init 32 (.iconst 0) 1 33 := ⟨by decide +kernel, rfl⟩
theorem dX6_init_33 : DD mX6_init 33 (.putfield 25) 3 36 := ⟨by decide +kernel, rfl⟩
theorem dX6_init_36 : DD mX6_init 36 (.aload_n 0) 1 37 := ⟨by decide +kernel, rfl⟩
theorem dX6_init_37 : DD mX6_init 37 (.iconst 4) 1 38 := ⟨by decide +kernel, rfl⟩
theorem dX6_init_38 : DD mX6_init 38 (.newarray .int) 2 40 := ⟨by decide +kernel, rfl⟩
theorem dX6_init_40 : DD mX6_init 40 (.putfield 28) 3 43 := ⟨by decide +kernel, rfl⟩
theorem dX6_init_43 : DD mX6_init 43 (.aload_n 0) 1 44 := ⟨by decide +kernel, rfl⟩
theorem dX6_init_44 : DD mX6_init 44 (.bipush 30) 2 46 := ⟨by decide +kernel, rfl⟩
theorem dX6_init_46 : DD mX6_init 46 (.newarray .int) 2 48 := ⟨by decide +kernel, rfl⟩
theorem dX6_init_48 : DD mX6_init 48 (.putfield 31) 3 51 := ⟨by decide +kernel, rfl⟩
theorem dX6_init_51 : DD mX6_init 51 (.aload_n 0) 1 52 := ⟨by decide +kernel, rfl⟩
theorem dX6_init_52 : DD mX6_init 52 (.iconst 0) 1 53 := ⟨by decide +kernel, rfl⟩
theorem dX6_init_53 : DD mX6_init 53 (.putfield 34) 3 56 := ⟨by decide +kernel, rfl⟩
theorem dX6_init_56 : DD mX6_init 56 (.aload_n 0) 1 57 := ⟨by decide +kernel, rfl⟩
theorem dX6_init_57 : DD mX6_init 57 (.iconst 0) 1 58 := ⟨by decide +kernel, rfl⟩
theorem dX6_init_58 : DD mX6_init 58 (.putfield 38) 3 61 := ⟨by decide +kernel, rfl⟩
theorem dX6_init_61 : DD mX6_init 61 (.aload_n 0) 1 62 := ⟨by decide +kernel, rfl⟩
theorem dX6_init_62 : DD mX6_init 62 (.iconst 0) 1 63 := ⟨by decide +kernel, rfl⟩
theorem dX6_init_63 : DD mX6_init 63 (.putfield 41) 3 66 := ⟨by decide +kernel, rfl⟩
theorem dX6_init_66 : DD mX6_init 66 (.aload_n 0) 1 67 := ⟨by decide +kernel, rfl⟩
theorem dX6_init_67 : DD mX6_init 67 (.iconst 4) 1 68 := ⟨by decide +kernel, rfl⟩
theorem dX6_init_68 : DD mX6_init 68 (.newarray .int) 2 70 := ⟨by decide +kernel, rfl⟩
theorem dX6_init_70 : DD mX6_init 70 (.putfield 44) 3 73 := ⟨by decide +kernel, rfl⟩
theorem dX6_init_73 : DD mX6_init 73 .return_ 1 74 := ⟨by decide +kernel, rfl⟩
theorem dX2_init_0 : DD mX2_init 0 (.aload_n 0) 1 1 := ⟨by decide +kernel, rfl⟩
theorem dX2_init_1 : DD mX2_init 1 (.invokespecial 3) 3 4 := ⟨by decide +kernel, rfl⟩
theorem dX2_init_4 : DD mX2_init 4 (.aload_n 0) 1 5 := ⟨by decide +kernel, rfl⟩
theorem dX2_init_5 : DD mX2_init 5 (.iconst 0) 1 6 := ⟨by decide +kernel, rfl⟩
theorem dX2_init_6 : DD mX2_init 6 (.putfield 9) 3 9 := ⟨by decide +kernel, rfl⟩
theorem dX2_init_9 : DD mX2_init 9 (.aload_n 0) 1 10 := ⟨by decide +kernel, rfl⟩
theorem dX2_init_10 : DD mX2_init 10 (.iconst 0) 1 11 := ⟨by decide +kernel, rfl⟩
theorem dX2_init_11 : DD mX2_init 11 (.putfield 15) 3 14 := ⟨by decide +kernel, rfl⟩
theorem dX2_init_14 : DD mX2_init 14 (.aload_n 0) 1 15 := ⟨by decide +kernel, rfl⟩
theorem dX2_init_15 : DD mX2_init 15 (.sipush 240) 3 18 := ⟨by decide +kernel, rfl⟩
theorem dX2_init_18 : DD mX2_init 18 (.newarray .int) 2 20 := ⟨by decide +kernel, rfl⟩
theorem dX2_init_20 : DD mX2_init 20 (.putfield 18) 3 23 := ⟨by decide +kernel, rfl⟩
theorem dX2_init_23 : DD mX2_init 23 (.aload_n 0) 1 24 := ⟨by decide +kernel, rfl⟩
theorem dX2_init_24 : DD mX2_init 24 (.sipush 240) 3 27 := ⟨by decide +kernel, rfl⟩
theorem dX2_init_27 : DD mX2_init 27 (.newarray .int) 2 29 := ⟨by decide +kernel, rfl⟩
theorem dX2_init_29 : DD mX2_init 29 (.putfield 22) 3 32 := ⟨by decide +kernel, rfl⟩
theorem dX2_init_32 : DD mX2_init 32 (.aload_n 0) 1 33 := ⟨by decide +kernel, rfl⟩
theorem dX2_init_33 : DD mX2_init 33 (.bipush 30) 2 35 := ⟨by decide +kernel, rfl⟩
theorem dX2_init_35 : DD mX2_init 35 (.newarray .int) 2 37 := ⟨by decide +kernel, rfl⟩
theorem dX2_init_37 : DD mX2_init 37 (.putfield 25) 3 40 := ⟨by decide +kernel, rfl⟩
theorem dX2_init_40 : DD mX2_init 40 (.aload_n 0) 1 41 := ⟨by decide +kernel, rfl⟩
theorem dX2_init_41 : DD mX2_init 41 (.bipush 30) 2 43 := ⟨by decide +kernel, rfl⟩
theorem dX2_init_43 : DD mX2_init 43 (.newarray .int) 2 45 := ⟨by decide +kernel, rfl⟩
theorem dX2_init_45 : DD mX2_init 45 (.putfield 28) 3 48 := ⟨by decide +kernel, rfl⟩
theorem dX2_init_48 : DD mX2_init 48 (.aload_n 0) 1 49 := ⟨by decide +kernel, rfl⟩
theorem dX2_init_49 : DD mX2_init 49 (.bipush 30) 2 51 := ⟨by decide +kernel, rfl⟩
theorem dX2_init_51 : DD mX2_init 51 (.newarray .int) 2 53 := ⟨by decide +kernel, rfl⟩
theorem dX2_init_53 : DD mX2_init 53 (.putfield 31) 3 56 := ⟨by decide +kernel, rfl⟩
theorem dX2_init_56 : DD mX2_init 56 (.aload_n 0) 1 57 := ⟨by decide +kernel, rfl⟩
theorem dX2_init_57 : DD mX2_init 57 (.bipush 30) 2 59 := ⟨by decide +kernel, rfl⟩
theorem dX2_init_59 : DD mX2_init 59 (.newarray .int) 2 61 := ⟨by decide +kernel, rfl⟩
theorem dX2_init_61 : DD mX2_init 61 (.putfield 34) 3 64 := ⟨by decide +kernel, rfl⟩
theorem dX2_init_64 : DD mX2_init 64 (.aload_n 0) 1 65 := ⟨by decide +kernel, rfl⟩
theorem dX2_init_65 : DD mX2_init 65 (.new 37) 3 68 := ⟨by decide +kernel, rfl⟩
theorem dX2_init_68 : DD mX2_init 68 .dup 1 69 := ⟨by decide +kernel, rfl⟩
theorem dX2_init_69 : DD mX2_init 69 (.invokespecial 39) 3 72 := ⟨by decide +kernel, rfl⟩
theorem dX2_init_72 : DD mX2_init 72 (.putfield 40) 3 75 := ⟨by decide +kernel, rfl⟩
theorem dX2_init_75 : DD mX2_init 75 (.aload_n 0) 1 76 := ⟨by decide +kernel, rfl⟩
theorem dX2_init_76 : DD mX2_init 76 (.new 44) 3 79 := ⟨by decide +kernel, rfl⟩
theorem dX2_init_79 : DD mX2_init 79 .dup 1 80 := ⟨by decide +kernel, rfl⟩
theorem dX2_init_80 : DD mX2_init 80 (.invokespecial 46) 3 83 := ⟨by decide +kernel, rfl⟩
theorem dX2_init_83 : DD mX2_init 83 (.putfield 47) 3 86 := ⟨by decide +kernel, rfl⟩
theorem dX2_init_86 : DD mX2_init 86 .return_ 1 87 := ⟨by decide +kernel, rfl⟩
theorem dX1_init_0 : DD mX1_init 0 (.aload_n 0) 1 1 := ⟨by decide +kernel, rfl⟩
theorem dX1_init_1 : DD mX1_init 1 (.invokespecial 3) 3 4 := ⟨by decide +kernel, rfl⟩
theorem dX1_init_4 : DD mX1_init 4 (.aload_n 0) 1 5 := ⟨by decide +kernel, rfl⟩
theorem dX1_init_5 : DD mX1_init 5 (.new 9) 3 8 := ⟨by decide +kernel, rfl⟩
theorem dX1_init_8 : DD mX1_init 8 .dup 1 9 := ⟨by decide +kernel, rfl⟩
theorem dX1_init_9 : DD mX1_init 9 (.invokespecial 11) 3 12 := ⟨by decide +kernel, rfl⟩
theorem dX1_init_12 : DD mX1_init 12 (.putfield 12) 3 15 := ⟨by decide +kernel, rfl⟩
theorem dX1_init_15 : DD mX1_init 15 (.aload_n 0) 1 16 := ⟨by decide +kernel, rfl⟩
theorem dX1_init_16 : DD mX1_init 16 (.new 18) 3 19 := ⟨by decide +kernel, rfl⟩
theorem dX1_init_19 : DD mX1_init 19 .dup 1 20 := ⟨by decide +kernel, rfl⟩
theorem dX1_init_20 : DD mX1_init 20 (.invokespecial 20) 3 23 := ⟨by decide +kernel, rfl⟩
theorem dX1_init_23 : DD mX1_init 23 (.putfield 21) 3 26 := ⟨by decide +kernel, rfl⟩
theorem dX1_init_26 : DD mX1_init 26 (.aload_n 0) 1 27 := ⟨by decide +kernel, rfl⟩
theorem dX1_init_27 : DD mX1_init 27 (.iconst 4) 1 28 := ⟨by decide +kernel, rfl⟩
theorem dX1_init_28 : DD mX1_init 28 (.newarray .long) 2 30 := ⟨by decide +kernel, rfl⟩
theorem dX1_init_30 : DD mX1_init 30 (.putfield 25) 3 33 := ⟨by decide +kernel, rfl⟩
theorem dX1_init_33 : DD mX1_init 33 (.aload_n 0) 1 34 := ⟨by decide +kernel, rfl⟩
theorem dX1_init_34 : DD mX1_init 34 (.bipush 20) 2 36 := ⟨by decide +kernel, rfl⟩
theorem dX1_init_36 : DD mX1_init 36 (.newarray .long) 2 38 := ⟨by decide +kernel, rfl⟩
theorem dX1_init_38 : DD mX1_init 38 (.putfield 29) 3 41 := ⟨by decide +kernel, rfl⟩
theorem dX1_init_41 : DD mX1_init 41 (.aload_n 0) 1 42 := ⟨by decide +kernel, rfl⟩
theorem dX1_init_42 : DD mX1_init 42 (.iconst 0) 1 43 := ⟨by decide +kernel, rfl⟩
theorem dX1_init_43 : DD mX1_init 43 (.putfield 32) 3 46 := ⟨by decide +kernel, rfl⟩
theorem dX1_init_46 : DD mX1_init 46 .return_ 1 47 := ⟨by decide +kernel, rfl⟩
theorem dX8_init_0 : DD mX8_init 0 (.aload_n 0) 1 1 := ⟨by decide +kernel, rfl⟩
theorem dX8_init_1 : DD mX8_init 1 (.invokespecial 3) 3 4 := ⟨by decide +kernel, rfl⟩
theorem dX8_init_4 : DD mX8_init 4 (.aload_n 0) 1 5 := ⟨by decide +kernel, rfl⟩
theorem dX8_init_5 : DD mX8_init 5 (.new 9) 3 8 := ⟨by decide +kernel, rfl⟩
theorem dX8_init_8 : DD mX8_init 8 .dup 1 9 := ⟨by decide +kernel, rfl⟩
theorem dX8_init_9 : DD mX8_init 9 (.invokespecial 11) 3 12 := ⟨by decide +kernel, rfl⟩
theorem dX8_init_12 : DD mX8_init 12 (.putfield 12) 3 15 := ⟨by decide +kernel, rfl⟩
theorem dX8_init_15 : DD mX8_init 15 (.aload_n 0) 1 16 := ⟨by decide +kernel, rfl⟩
theorem dX8_init_16 : DD mX8_init 16 (.new 18) 3 19 := ⟨by decide +kernel, rfl⟩
theorem dX8_init_19 : DD mX8_init 19 .dup 1 20 := ⟨by decide +kernel, rfl⟩
theorem dX8_init_20 : DD mX8_init 20 (.invokespecial 20) 3 23 := ⟨by decide +kernel, rfl⟩
theorem dX8_init_23 : DD mX8_init 23 (.putfield 21) 3 26 := ⟨by decide +kernel, rfl⟩
theorem dX8_init_26 : DD mX8_init 26 (.aload_n 0) 1 27 := ⟨by decide +kernel, rfl⟩
theorem dX8_init_27 : DD mX8_init 27 (.iconst 3) 1 28 := ⟨by decide +kernel, rfl⟩
theorem dX8_init_28 : DD mX8_init 28 (.newarray .int) 2 30 := ⟨by decide +kernel, rfl⟩
theorem dX8_init_30 : DD mX8_init 30 (.putfield 25) 3 33 := ⟨by decide +kernel, rfl⟩
theorem dX8_init_33 : DD mX8_init 33 (.aload_n 0) 1 34 := ⟨by decide +kernel, rfl⟩
theorem dX8_init_34 : DD mX8_init 34 (.iconst 0) 1 35 := ⟨by decide +kernel, rfl⟩
theorem dX8_init_35 : DD mX8_init 35 (.putfield 29) 3 38 := ⟨by decide +kernel, rfl⟩
theorem dX8_init_38 : DD mX8_init 38 (.aload_n 0) 1 39 := ⟨by decide +kernel, rfl⟩
theorem dX8_init_39 : DD mX8_init 39 (.iconst 0) 1 40 := ⟨by decide +kernel, rfl⟩
theorem dX8_init_40 : DD mX8_init 40 (.putfield 33) 3 43 := ⟨by decide +kernel, rfl⟩
theorem dX8_init_43 : DD mX8_init 43 (.aload_n 0) 1 44 := ⟨by decide +kernel, rfl⟩
theorem dX8_init_44 : DD mX8_init 44 (.iconst 0) 1 45 := ⟨by decide +kernel, rfl⟩
theorem dX8_init_45 : DD mX8_init 45 (.putfield 36) 3 48 := ⟨by decide +kernel, rfl⟩
theorem dX8_init_48 : DD mX8_init 48 .return_ 1 49 := ⟨by decide +kernel, rfl⟩
theorem dX11_init_0 : DD mX11_init 0 (.aload_n 0) 1 1 := ⟨by decide +kernel, rfl⟩
theorem dX11_init_1 : DD mX11_init 1 (.invokespecial 1) 3 4 := ⟨by decide +kernel, rfl⟩
theorem dX11_init_4 : DD mX11_init 4 (.aload_n 0) 1 5 := ⟨by decide +kernel, rfl⟩
theorem dX11_init_5 : DD mX11_init 5 (.iconst 4) 1 6 := ⟨by decide +kernel, rfl⟩
theorem dX11_init_6 : DD mX11_init 6 (.anewarray 9) 3 9 := ⟨by decide +kernel, rfl⟩
theorem dX11_init_9 : DD mX11_init 9 (.putfield 11) 3 12 := ⟨by decide +kernel, rfl⟩
theorem dX11_init_12 : DD mX11_init 12 (.aload_n 0) 1 13 := ⟨by decide +kernel, rfl⟩
theorem dX11_init_13 : DD mX11_init 13 (.sipush 500) 3 16 := ⟨by decide +kernel, rfl⟩
theorem dX11_init_16 : DD mX11_init 16 (.newarray .int) 2 18 := ⟨by decide +kernel, rfl⟩
theorem dX11_init_18 : DD mX11_init 18 (.putfield 15) 3 21 := ⟨by decide +kernel, rfl⟩
theorem dX11_init_21 : DD mX11_init 21 (.aload_n 0) 1 22 := ⟨by decide +kernel, rfl⟩
theorem dX11_init_22 : DD mX11_init 22 (.new 19) 3 25 := ⟨by decide +kernel, rfl⟩
theorem dX11_init_25 : DD mX11_init 25 .dup 1 26 := ⟨by decide +kernel, rfl⟩
theorem dX11_init_26 : DD mX11_init 26 (.invokespecial 21) 3 29 := ⟨by decide +kernel, rfl⟩
theorem dX11_init_29 : DD mX11_init 29 (.putfield 22) 3 32 := ⟨by decide +kernel, rfl⟩
theorem dX11_init_32 : DD mX11_init 32 (.aload_n 0) 1 33 := ⟨by decide +kernel, rfl⟩
theorem dX11_init_33 : DD mX11_init 33 (.iconst 3) 1 34 := ⟨by decide +kernel, rfl⟩
theorem dX11_init_34 : DD mX11_init 34 (.anewarray 19) 3 37 := ⟨by decide +kernel, rfl⟩
theorem dX11_init_37 : DD mX11_init 37 (.putfield 26) 3 40 := ⟨by decide +kernel, rfl⟩
theorem dX11_init_40 : DD mX11_init 40 (.aload_n 0) 1 41 := ⟨by decide +kernel, rfl⟩
theorem dX11_init_41 : DD mX11_init 41 (.new 30) 3 44 := ⟨by decide +kernel, rfl⟩
theorem dX11_init_44 : DD mX11_init 44 .dup 1 45 := ⟨by decide +kernel, rfl⟩
theorem dX11_init_45 : DD mX11_init 45 (.invokespecial 32) 3 48 := ⟨by decide +kernel, rfl⟩
theorem dX11_init_48 : DD mX11_init 48 (.putfield 33) 3 51 := ⟨by decide +kernel, rfl⟩
theorem dX11_init_51 : DD mX11_init 51 (.aload_n 0) 1 52 := ⟨by decide +kernel, rfl⟩
theorem dX11_init_52 : DD mX11_init 52 (.new 37) 3 55 := ⟨by decide +kernel, rfl⟩
theorem dX11_init_55 : DD mX11_init 55 .dup 1 56 := ⟨by decide +kernel, rfl⟩
theorem dX11_init_56 : DD mX11_init 56 (.invokespecial 39) 3 59 := ⟨by decide +kernel, rfl⟩
theorem dX11_init_59 : DD mX11_init 59 (.putfield 40) 3 62 := ⟨by decide +kernel, rfl⟩
theorem dX11_init_62 : DD mX11_init 62 (.aload_n 0) 1 63 := ⟨by decide +kernel, rfl⟩
theorem dX11_init_63 : DD mX11_init 63 (.new 44) 3 66 := ⟨by decide +kernel, rfl⟩
theorem dX11_init_66 : DD mX11_init 66 .dup 1 67 := ⟨by decide +kernel, rfl⟩
theorem dX11_init_67 : DD mX11_init 67 (.invokespecial 46) 3 70 := ⟨by decide +kernel, rfl⟩
theorem dX11_init_70 : DD mX11_init 70 (.putfield 47) 3 73 := ⟨by decide +kernel, rfl⟩
theorem dX11_init_73 : DD mX11_init 73 (.aload_n 0) 1 74 := ⟨by decide +kernel, rfl⟩
theorem dX11_init_74 : DD mX11_init 74 (.new 51) 3 77 := ⟨by decide +kernel, rfl⟩
theorem dX11_init_77 : DD mX11_init 77 .dup 1 78 := ⟨by decide +kernel, rfl⟩
theorem dX11_init_78 : DD mX11_init 78 (.invokespecial 53) 3 81 := ⟨by decide +kernel, rfl⟩
theorem dX11_init_81 : DD mX11_init 81 (.putfield 54) 3 84 := ⟨by decide +kernel, rfl⟩
theorem dX11_init_84 : DD mX11_init 84 (.aload_n 0) 1 85 := ⟨by decide +kernel, rfl⟩
theorem dX11_init_85 : DD mX11_init 85 (.new 58) 3 88 := ⟨by decide +kernel, rfl⟩
theorem dX11_init_88 : DD mX11_init 88 .dup 1 89 := ⟨by decide +kernel, rfl⟩
theorem dX11_init_89 : DD mX11_init 89 (.invokespecial 60) 3 92 := ⟨by decide +kernel, rfl⟩
theorem dX11_init_92 : DD mX11_init 92 (.putfield 61) 3 95 := ⟨by decide +kernel, rfl⟩
theorem dX11_init_95 : DD mX11_init 95 (.aload_n 0) 1 96 := ⟨by decide +kernel, rfl⟩
theorem dX11_init_96 : DD mX11_init 96 (.new 65) 3 99 := ⟨by decide +kernel, rfl⟩
theorem dX11_init_99 : DD mX11_init 99 .dup 1 100 := ⟨by decide +kernel, rfl⟩
theorem dX11_init_100 : DD mX11_init 100 (.invokespecial 67) 3 103 := ⟨by decide +kernel, rfl⟩
theorem dX11_init_103 : DD mX11_init 103 (.putfield 68) 3 106 := ⟨by decide +kernel, rfl⟩
theorem dX11_init_106 : DD mX11_init 106 (.aload_n 0) 1 107 := ⟨by decide +kernel, rfl⟩
theorem dX11_init_107 : DD mX11_init 107 (.iconst 0) 1 108 := ⟨by decide +kernel, rfl⟩
theorem dX11_init_108 : DD mX11_init 108 (.putfield 72) 3 111 := ⟨by decide +kernel, rfl⟩
theorem dX11_init_111 : DD mX11_init 111 (.aload_n 0) 1 112 := ⟨by decide +kernel, rfl⟩
theorem dX11_init_112 : DD mX11_init 112 (.lconst 0) 1 113 := ⟨by decide +kernel, rfl⟩
theorem dX11_init_113 : DD mX11_init 113 (.putfield 76) 3 116 := ⟨by decide +kernel, rfl⟩
theorem dX11_init_116 : DD mX11_init 116 (.aload_n 0) 1 117 := ⟨by decide +kernel, rfl⟩
theorem dX11_init_117 : DD mX11_init 117 (.lconst 1) 1 118 := ⟨by decide +kernel, rfl⟩
theorem dX11_init_118 : DD mX11_init 118 (.putfield 80) 3 121 := ⟨by decide +kernel, rfl⟩
theorem dX11_init_121 : DD mX11_init 121 (.aload_n 0) 1 122 := ⟨by decide +kernel, rfl⟩
theorem dX11_init_122 : DD mX11_init 122 (.iconst 0) 1 123 := ⟨by decide +kernel, rfl⟩
theorem dX11_init_123 : DD mX11_init 123 (.putfield 83) 3 126 := ⟨by decide +kernel, rfl⟩
theorem dX11_init_126 : DD mX11_init 126 (.aload_n 0) 1 127 := ⟨by decide +kernel, rfl⟩
theorem dX11_init_127 : DD mX11_init 127 (.iconst 0) 1 128 := ⟨by decide +kernel, rfl⟩
theorem dX11_init_128 : DD mX11_init 128 (.putfield 86) 3 131 := ⟨by decide +kernel, rfl⟩
theorem dX11_init_131 : DD mX11_init 131 (.aload_n 0) 1 132 := ⟨by decide +kernel, rfl⟩
theorem dX11_init_132 : DD mX11_init 132 (.iconst (-1)) 1 133 := ⟨by decide +kernel, rfl⟩
theorem dX11_init_133 : DD mX11_init 133 (.putfield 89) 3 136 := ⟨by decide +kernel, rfl⟩
theorem dX11_init_136 : DD mX11_init 136 (.aload_n 0) 1 137 := ⟨by decide +kernel, rfl⟩
theorem dX11_init_137 : DD mX11_init 137 (.iconst (-1)) 1 138 := ⟨by decide +kernel, rfl⟩
theorem dX11_init_138 : DD mX11_init 138 (.putfield 92) 3 141 := ⟨by decide +kernel, rfl⟩
theorem dX11_init_141 : DD mX11_init 141 (.iconst 0) 1 142 := ⟨by decide +kernel, rfl⟩
theorem dX11_init_142 : DD mX11_init 142 (.istore_n 1) 1 143 := ⟨by decide +kernel, rfl⟩
theorem dX11_init_143 : DD mX11_init 143 (.iload_n 1) 1 144 := ⟨by decide +kernel, rfl⟩
theorem dX11_init_144 : DD mX11_init 144 (.iconst 4) 1 145 := ⟨by decide +kernel, rfl⟩
theorem dX11_init_145 : DD mX11_init 145 (.if_icmp .ge 22) 3 148 := ⟨by decide +kernel, rfl⟩
theorem dX11_init_148 : DD mX11_init 148 (.aload_n 0) 1 149 := ⟨by decide +kernel, rfl⟩
theorem dX11_init_149 : DD mX11_init 149 (.getfield 11) 3 152 := ⟨by decide +kernel, rfl⟩
theorem dX11_init_152 : DD mX11_init 152 (.iload_n 1) 1 153 := ⟨by decide +kernel, rfl⟩
theorem dX11_init_153 : DD mX11_init 153 (.new 9) 3 156 := ⟨by decide +kernel, rfl⟩
theorem dX11_init_156 : DD mX11_init 156 .dup 1 157 := ⟨by decide +kernel, rfl⟩
theorem dX11_init_157 : DD mX11_init 157 (.invokespecial 95) 3 160 := ⟨by decide +kernel, rfl⟩
theorem dX11_init_160 : DD mX11_init 160 .aastore 1 161 := ⟨by decide +kernel, rfl⟩
theorem dX11_init_161 : DD mX11_init 161 (.iinc 1 1) 3 164 := ⟨by decide +kernel, rfl⟩
theorem dX11_init_164 : DD mX11_init 164 (.goto (-21)) 3 167 := ⟨by decide +kernel, rfl⟩
theorem dX11_init_167 : DD mX11_init 167 (.iconst 0) 1 168 := ⟨by decide +kernel, rfl⟩
theorem dX11_init_168 : DD mX11_init 168 (.istore_n 1) 1 169 := ⟨by decide +kernel, rfl⟩
theorem dX11_init_169 : DD mX11_init 169 (.iload_n 1) 1 170 := ⟨by decide +kernel, rfl⟩
theorem dX11_init_170 : DD mX11_init 170 (.iconst 3) 1 171 := ⟨by decide +kernel, rfl⟩
theorem dX11_init_171 : DD mX11_init 171 (.if_icmp .ge 22) 3 174 := ⟨by decide +kernel, rfl⟩
theorem dX11_init_174 : DD mX11_init 174 (.aload_n 0) 1 175 := ⟨by decide +kernel, rfl⟩
theorem dX11_init_175 : DD mX11_init 175 (.getfield 26) 3 178 := ⟨by decide +kernel, rfl⟩
theorem dX11_init_178 : DD mX11_init 178 (.iload_n 1) 1 179 := ⟨by decide +kernel, rfl⟩
theorem dX11_init_179 : DD mX11_init 179 (.new 19) 3 182 := ⟨by decide +kernel, rfl⟩
theorem dX11_init_182 : DD mX11_init 182 .dup 1 183 := ⟨by decide +kernel, rfl⟩
theorem dX11_init_183 : DD mX11_init 183 (.invokespecial 21) 3 186 := ⟨by decide +kernel, rfl⟩
theorem dX11_init_186 : DD mX11_init 186 .aastore 1 187 := ⟨by decide +kernel, rfl⟩
theorem dX11_init_187 : DD mX11_init 187 (.iinc 1 1) 3 190 := ⟨by decide +kernel, rfl⟩
theorem dX11_init_190 : DD mX11_init 190 (.goto (-21)) 3 193 := ⟨by decide +kernel, rfl⟩
theorem dX11_init_193 : DD mX11_init 193 .return_ 1 194 := ⟨by decide +kernel, rfl⟩
theorem dX12_init_0 : DD mX12_init 0 (.aload_n 0) 1 1 := ⟨by decide +kernel, rfl⟩
theorem dX12_init_1 : DD mX12_init 1 (.invokespecial 1) 3 4 := ⟨by decide +kernel, rfl⟩
theorem dX12_init_4 : DD mX12_init 4 (.aload_n 0) 1 5 := ⟨by decide +kernel, rfl⟩
theorem dX12_init_5 : DD mX12_init 5 (.sipush 4000) 3 8 := ⟨by decide +kernel, rfl⟩
theorem dX12_init_8 : DD mX12_init 8 (.newarray .int) 2 10 := ⟨by decide +kernel, rfl⟩
theorem dX12_init_10 : DD mX12_init 10 (.putfield 7) 3 13 := ⟨by decide +kernel, rfl⟩
theorem dX12_init_13 : DD mX12_init 13 (.aload_n 0) 1 14 := ⟨by decide +kernel, rfl⟩
theorem dX12_init_14 : DD mX12_init 14 (.lconst 1) 1 15 := ⟨by decide +kernel, rfl⟩
theorem dX12_init_15 : DD mX12_init 15 (.putfield 13) 3 18 := ⟨by decide +kernel, rfl⟩
theorem dX12_init_18 : DD mX12_init 18 (.aload_n 0) 1 19 := ⟨by decide +kernel, rfl⟩
theorem dX12_init_19 : DD mX12_init 19 (.iconst 4) 1 20 := ⟨by decide +kernel, rfl⟩
theorem dX12_init_20 : DD mX12_init 20 (.newarray .int) 2 22 := ⟨by decide +kernel, rfl⟩
theorem dX12_init_22 : DD mX12_init 22 (.putfield 17) 3 25 := ⟨by decide +kernel, rfl⟩
theorem dX12_init_25 : DD mX12_init 25 (.aload_n 0) 1 26 := ⟨by decide +kernel, rfl⟩
theorem dX12_init_26 : DD mX12_init 26 (.iconst 4) 1 27 := ⟨by decide +kernel, rfl⟩
theorem dX12_init_27 : DD mX12_init 27 (.newarray .int) 2 29 := ⟨by decide +kernel, rfl⟩
theorem dX12_init_29 : DD mX12_init 29 .dup 1 30 := ⟨by decide +kernel, rfl⟩
theorem dX12_init_30 : DD mX12_init 30 (.iconst 0) 1 31 := ⟨by decide +kernel, rfl⟩
theorem dX12_init_31 : DD mX12_init 31 (.iconst (-1)) 1 32 := ⟨by decide +kernel, rfl⟩
theorem dX12_init_32 : DD mX12_init 32 .iastore 1 33 := ⟨by decide +kernel, rfl⟩
theorem dX12_init_33 : DD mX12_init 33 .dup 1 34 := ⟨by decide +kernel, rfl⟩
theorem dX12_init_34 : DD mX12_init 34 (.iconst 1) 1 35 := ⟨by decide +kernel, rfl⟩
theorem dX12_init_35 : DD mX12_init 35 (.iconst (-1)) 1 36 := ⟨by decide +kernel, rfl⟩
theorem dX12_init_36 : DD mX12_init 36 .iastore 1 37 := ⟨by decide +kernel, rfl⟩
theorem dX12_init_37 : DD mX12_init 37 .dup 1 38 := ⟨by decide +kernel, rfl⟩
theorem dX12_init_38 : DD mX12_init 38 (.iconst 2) 1 39 := ⟨by decide +kernel, rfl⟩
theorem dX12_init_39 : DD mX12_init 39 (.iconst (-1)) 1 40 := ⟨by decide +kernel, rfl⟩
theorem dX12_init_40 : DD mX12_init 40 .iastore 1 41 := ⟨by decide +kernel, rfl⟩
theorem dX12_init_41 : DD mX12_init 41 .dup 1 42 := ⟨by decide +kernel, rfl⟩
theorem dX12_init_42 : DD mX12_init 42 (.iconst 3) 1 43 := ⟨by decide +kernel, rfl⟩
theorem dX12_init_43 : DD mX12_init 43 (.iconst (-1)) 1 44 := ⟨by decide +kernel, rfl⟩
theorem dX12_init_44 : DD mX12_init 44 .iastore 1 45 := ⟨by decide +kernel, rfl⟩
theorem dX12_init_45 : DD mX12_init 45 (.putfield 20) 3 48 := ⟨by decide +kernel, rfl⟩
theorem dX12_init_48 : DD mX12_init 48 (.aload_n 0) 1 49 := ⟨by decide +kernel, rfl⟩
theorem dX12_init_49 : DD mX12_init 49 (.sipush 240) 3 52 := ⟨by decide +kernel, rfl⟩
theorem dX12_init_52 : DD mX12_init 52 (.newarray .long) 2 54 := ⟨by decide +kernel, rfl⟩
theorem dX12_init_54 : DD mX12_init 54 (.putfield 23) 3 57 := ⟨by decide +kernel, rfl⟩
theorem dX12_init_57 : DD mX12_init 57 (.aload_n 0) 1 58 := ⟨by decide +kernel, rfl⟩
theorem dX12_init_58 : DD mX12_init 58 (.sipush 500) 3 61 := ⟨by decide +kernel, rfl⟩
theorem dX12_init_61 : DD mX12_init 61 (.newarray .byte) 2 63 := ⟨by decide +kernel, rfl⟩
theorem dX12_init_63 : DD mX12_init 63 (.putfield 27) 3 66 := ⟨by decide +kernel, rfl⟩
theorem dX12_init_66 : DD mX12_init 66 (.aload_n 0) 1 67 := ⟨by decide +kernel, rfl⟩
theorem dX12_init_67 : DD mX12_init 67 (.sipush 500) 3 70 := ⟨by decide +kernel, rfl⟩
theorem dX12_init_70 : DD mX12_init 70 (.newarray .byte) 2 72 := ⟨by decide +kernel, rfl⟩
theorem dX12_init_72 : DD mX12_init 72 (.putfield 31) 3 75 := ⟨by decide +kernel, rfl⟩
theorem dX12_init_75 : DD mX12_init 75 (.aload_n 0) 1 76 := ⟨by decide +kernel, rfl⟩
theorem dX12_init_76 : DD mX12_init 76 (.iconst (-1)) 1 77 := ⟨by decide +kernel, rfl⟩
theorem dX12_init_77 : DD mX12_init 77 (.putfield 34) 3 80 := ⟨by decide +kernel, rfl⟩
theorem dX12_init_80 : DD mX12_init 80 (.aload_n 0) 1 81 := ⟨by decide +kernel, rfl⟩
theorem dX12_init_81 : DD mX12_init 81 (.iconst (-1)) 1 82 := ⟨by decide +kernel, rfl⟩
theorem dX12_init_82 : DD mX12_init 82 (.putfield 38) 3 85 := ⟨by decide +kernel, rfl⟩
theorem dX12_init_85 : DD mX12_init 85 (.aload_n 0) 1 86 := ⟨by decide +kernel, rfl⟩
theorem dX12_init_86 : DD mX12_init 86 (.iconst 4) 1 87 := ⟨by decide +kernel, rfl⟩
theorem dX12_init_87 : DD mX12_init 87 (.newarray .long) 2 89 := ⟨by decide +kernel, rfl⟩
theorem dX12_init_89 : DD mX12_init 89 (.putfield 41) 3 92 := ⟨by decide +kernel, rfl⟩
theorem dX12_init_92 : DD mX12_init 92 (.aload_n 0) 1 93 := ⟨by decide +kernel, rfl⟩
theorem dX12_init_93 : DD mX12_init 93 (.bipush 20) 2 95 := ⟨by decide +kernel, rfl⟩
theorem dX12_init_95 : DD mX12_init 95 (.newarray .long) 2 97 := ⟨by decide +kernel, rfl⟩
theorem dX12_init_97 : DD mX12_init 97 (.putfield 44) 3 100 := ⟨by decide +kernel, rfl⟩
theorem dX12_init_100 : DD mX12_init 100 (.aload_n 0) 1 101 := ⟨by decide +kernel, rfl⟩
theorem dX12_init_101 : DD mX12_init 101 (.iconst 4) 1 102 := ⟨by decide +kernel, rfl⟩
theorem dX12_init_102 : DD mX12_init 102 (.newarray .int) 2 104 := ⟨by decide +kernel, rfl⟩
theorem dX12_init_104 : DD mX12_init 104 (.putfield 47) 3 107 := ⟨by decide +kernel, rfl⟩
theorem dX12_init_107 : DD mX12_init 107 (.aload_n 0) 1 108 := ⟨by decide +kernel, rfl⟩
theorem dX12_init_108 : DD mX12_init 108 (.bipush 90) 2 110 := ⟨by decide +kernel, rfl⟩
theorem dX12_init_110 : DD mX12_init 110 (.newarray .int) 2 112 := ⟨by decide +kernel, rfl⟩
theorem dX12_init_112 : DD mX12_init 112 (.putfield 50) 3 115 := ⟨by decide +kernel, rfl⟩
theorem dX12_init_115 : DD mX12_init 115 (.aload_n 0) 1 116 := ⟨by decide +kernel, rfl⟩
theorem dX12_init_116 : DD mX12_init 116 (.bipush 30) 2 118 := ⟨by decide +kernel, rfl⟩
theorem dX12_init_118 : DD mX12_init 118 (.newarray .int) 2 120 := ⟨by decide +kernel, rfl⟩
theorem dX12_init_120 : DD mX12_init 120 (.putfield 53) 3 123 := ⟨by decide +kernel, rfl⟩
theorem dX12_init_123 : DD mX12_init 123 (.aload_n 0) 1 124 := ⟨by decide +kernel, rfl⟩
theorem dX12_init_124 : DD mX12_init 124 (.bipush 30) 2 126 := ⟨by decide +kernel, rfl⟩
theorem dX12_init_126 : DD mX12_init 126 (.newarray .int) 2 128 := ⟨by decide +kernel, rfl⟩
theorem dX12_init_128 : DD mX12_init 128 (.putfield 56) 3 131 := ⟨by decide +kernel, rfl⟩
theorem dX12_init_131 : DD mX12_init 131 (.aload_n 0) 1 132 := ⟨by decide +kernel, rfl⟩
theorem dX12_init_132 : DD mX12_init 132 (.iconst 4) 1 133 := ⟨by decide +kernel, rfl⟩
theorem dX12_init_133 : DD mX12_init 133 (.newarray .int) 2 135 := ⟨by decide +kernel, rfl⟩
theorem dX12_init_135 : DD mX12_init 135 (.putfield 59) 3 138 := ⟨by decide +kernel, rfl⟩
theorem dX12_init_138 : DD mX12_init 138 (.aload_n 0) 1 139 := ⟨by decide +kernel, rfl⟩
theorem dX12_init_139 : DD mX12_init 139 (.iconst 4) 1 140 := ⟨by decide +kernel, rfl⟩
theorem dX12_init_140 : DD mX12_init 140 (.newarray .int) 2 142 := ⟨by decide +kernel, rfl⟩
theorem dX12_init_142 : DD mX12_init 142 (.putfield 62) 3 145 := ⟨by decide +kernel, rfl⟩
theorem dX12_init_145 : DD mX12_init 145 (.aload_n 0) 1 146 := ⟨by decide +kernel, rfl⟩
theorem dX12_init_146 : DD mX12_init 146 (.iconst 4) 1 147 := ⟨by decide +kernel, rfl⟩
theorem dX12_init_147 : DD mX12_init 147 (.newarray .int) 2 149 := ⟨by decide +kernel, rfl⟩
theorem dX12_init_149 : DD mX12_init 149 (.putfield 65) 3 152 := ⟨by decide +kernel, rfl⟩
theorem dX12_init_152 : DD mX12_init 152 (.aload_n 0) 1 153 := ⟨by decide +kernel, rfl⟩
theorem dX12_init_153 : DD mX12_init 153 (.iconst 5) 1 154 := ⟨by decide +kernel, rfl⟩
theorem dX12_init_154 : DD mX12_init 154 (.newarray .int) 2 156 := ⟨by decide +kernel, rfl⟩
theorem dX12_init_156 : DD mX12_init 156 (.putfield 68) 3 159 := ⟨by decide +kernel, rfl⟩
theorem dX12_init_159 : DD mX12_init 159 (.aload_n 0) 1 160 := ⟨by decide +kernel, rfl⟩
theorem dX12_init_160 : DD mX12_init 160 (.iconst 5) 1 161 := ⟨by decide +kernel, rfl⟩
theorem dX12_init_161 : DD mX12_init 161 (.newarray .int) 2 163 := ⟨by decide +kernel, rfl⟩
theorem dX12_init_163 : DD mX12_init 163 (.putfield 71) 3 166 := ⟨by decide +kernel, rfl⟩
theorem dX12_init_166 : DD mX12_init 166 (.aload_n 0) 1 167 := ⟨by decide +kernel, rfl⟩
theorem dX12_init_167 : DD mX12_init 167 (.iconst (-1)) 1 168 := ⟨by decide +kernel, rfl⟩
theorem dX12_init_168 : DD mX12_init 168 (.putfield 74) 3 171 := ⟨by decide +kernel, rfl⟩
theorem dX12_init_171 : DD mX12_init 171 (.aload_n 0) 1 172 := ⟨by decide +kernel, rfl⟩
theorem dX12_init_172 : DD mX12_init 172 (.iconst (-1)) 1 173 := ⟨by decide +kernel, rfl⟩
theorem dX12_init_173 : DD mX12_init 173 (.putfield 77) 3 176 := ⟨by decide +kernel, rfl⟩
theorem dX12_init_176 : DD mX12_init 176 (.aload_n 0) 1 177 := ⟨by decide +kernel, rfl⟩
theorem dX12_init_177 : DD mX12_init 177 (.bipush 12) 2 179 := ⟨by decide +kernel, rfl⟩
theorem dX12_init_179 : DD mX12_init 179 (.newarray .int) 2 181 := ⟨by decide +kernel, rfl⟩
theorem dX12_init_181 : DD mX12_init 181 (.putfield 80) 3 184 := ⟨by decide +kernel, rfl⟩
theorem dX12_init_184 : DD mX12_init 184 (.aload_n 0) 1 185 := ⟨by decide +kernel, rfl⟩
theorem dX12_init_185 : DD mX12_init 185 (.iconst 2) 1 186 := ⟨by decide +kernel, rfl⟩
theorem dX12_init_186 : DD mX12_init 186 (.newarray .int) 2 188 := ⟨by decide +kernel, rfl⟩
theorem dX12_init_188 : DD mX12_init 188 (.putfield 83) 3 191 := ⟨by decide +kernel, rfl⟩
theorem dX12_init_191 : DD mX12_init 191 (.aload_n 0) 1 192 := ⟨by decide +kernel, rfl⟩
theorem dX12_init_192 : DD mX12_init 192 (.iconst 2) 1 193 := ⟨by decide +kernel, rfl⟩
theorem dX12_init_193 : DD mX12_init 193 (.newarray .int) 2 195 := ⟨by decide +kernel, rfl⟩
theorem dX12_init_195 : DD mX12_init 195 (.putfield 86) 3 198 := ⟨by decide +kernel, rfl⟩
theorem dX12_init_198 : DD mX12_init 198 (.aload_n 0) 1 199 := ⟨by decide +kernel, rfl⟩
theorem dX12_init_199 : DD mX12_init 199 (.iconst (-1)) 1 200 := ⟨by decide +kernel, rfl⟩
theorem dX12_init_200 : DD mX12_init 200 (.putfield 89) 3 203 := ⟨by decide +kernel, rfl⟩
theorem dX12_init_203 : DD mX12_init 203 (.aload_n 0) 1 204 := ⟨by decide +kernel, rfl⟩
theorem dX12_init_204 : DD mX12_init 204 (.bipush 31) 2 206 := ⟨by decide +kernel, rfl⟩
theorem dX12_init_206 : DD mX12_init 206 (.newarray .int) 2 208 := ⟨by decide +kernel, rfl⟩
theorem dX12_init_208 : DD mX12_init 208 (.putfield 92) 3 211 := ⟨by decide +kernel, rfl⟩
theorem dX12_init_211 : DD mX12_init 211 (.aload_n 0) 1 212 := ⟨by decide +kernel, rfl⟩
theorem dX12_init_212 : DD mX12_init 212 (.sipush 961) 3 215 := ⟨by decide +kernel, rfl⟩
theorem dX12_init_215 : DD mX12_init 215 (.newarray .int) 2 217 := ⟨by decide +kernel, rfl⟩
theorem dX12_init_217 : DD mX12_init 217 (.putfield 95) 3 220 := ⟨by decide +kernel, rfl⟩
theorem dX12_init_220 : DD mX12_init 220 (.aload_n 0) 1 221 := ⟨by decide +kernel, rfl⟩
theorem dX12_init_221 : DD mX12_init 221 (.sipush 961) 3 224 := ⟨by decide +kernel, rfl⟩
theorem dX12_init_224 : DD mX12_init 224 (.newarray .int) 2 226 := ⟨by decide +kernel, rfl⟩
theorem dX12_init_226 : DD mX12_init 226 (.putfield 98) 3 229 := ⟨by decide +kernel, rfl⟩
theorem dX12_init_229 : DD mX12_init 229 (.aload_n 0) 1 230 := ⟨by decide +kernel, rfl⟩
theorem dX12_init_230 : DD mX12_init 230 (.bipush 30) 2 232 := ⟨by decide +kernel, rfl⟩
theorem dX12_init_232 : DD mX12_init 232 (.newarray .int) 2 234 := ⟨by decide +kernel, rfl⟩
theorem dX12_init_234 : DD mX12_init 234 (.putfield 101) 3 237 := ⟨by decide +kernel, rfl⟩
theorem dX12_init_237 : DD mX12_init 237 (.aload_n 0) 1 238 := ⟨by decide +kernel, rfl⟩
theorem dX12_init_238 : DD mX12_init 238 (.iconst (-1)) 1 239 := ⟨by decide +kernel, rfl⟩
theorem dX12_init_239 : DD mX12_init 239 (.putfield 104) 3 242 := ⟨by decide +kernel, rfl⟩
theorem dX12_init_242 : DD mX12_init 242 .return_ 1 243 := ⟨by decide +kernel, rfl⟩

/-! facts of the tables, by program: classes, fields, methods, links -/
theorem wiX0 : ∀ w ∈ wsX00, w ∈ W0 := by decide +kernel
theorem gcX0 : GCls 0 RX0 TX0 9 tyX0 := ⟨rfl, wiX0, tyX0_ok, nmX0⟩
theorem wiX1 : ∀ w ∈ wsX10, w ∈ W0 := by decide +kernel
theorem gcX1 : GCls 1 RX1 TX1 5 tyX1 := ⟨rfl, wiX1, tyX1_ok, nmX1⟩
theorem wiX2 : ∀ w ∈ wsX20, w ∈ W0 := by decide +kernel
theorem gcX2 : GCls 2 RX2 TX2 10 tyX2 := ⟨rfl, wiX2, tyX2_ok, nmX2⟩
theorem wiX3 : ∀ w ∈ wsX30, w ∈ W0 := by decide +kernel
theorem gcX3 : GCls 3 RX3 TX3 1 tyX3 := ⟨rfl, wiX3, tyX3_ok, nmX3⟩
theorem wiX4 : ∀ w ∈ wsX40, w ∈ W0 := by decide +kernel
theorem gcX4 : GCls 4 RX4 TX4 2 tyX4 := ⟨rfl, wiX4, tyX4_ok, nmX4⟩
theorem wiX5 : ∀ w ∈ wsX50, w ∈ W0 := by decide +kernel
theorem gcX5 : GCls 5 RX5 TX5 3 tyX5 := ⟨rfl, wiX5, tyX5_ok, nmX5⟩
theorem wiX6 : ∀ w ∈ wsX60, w ∈ W0 := by decide +kernel
theorem gcX6 : GCls 6 RX6 TX6 6 tyX6 := ⟨rfl, wiX6, tyX6_ok, nmX6⟩
theorem wiX7 : ∀ w ∈ wsX70, w ∈ W0 := by decide +kernel
theorem gcX7 : GCls 7 RX7 TX7 6 tyX7 := ⟨rfl, wiX7, tyX7_ok, nmX7⟩
theorem wiX8 : ∀ w ∈ wsX80, w ∈ W0 := by decide +kernel
theorem gcX8 : GCls 8 RX8 TX8 3 tyX8 := ⟨rfl, wiX8, tyX8_ok, nmX8⟩
theorem wiX9 : ∀ w ∈ wsX90, w ∈ W0 := by decide +kernel
theorem gcX9 : GCls 9 RX9 TX9 15 tyX9 := ⟨rfl, wiX9, tyX9_ok, nmX9⟩
theorem wiX10 : ∀ w ∈ wsX100, w ∈ W0 := by decide +kernel
theorem gcX10 : GCls 10 RX10 TX10 39 tyX10 := ⟨rfl, wiX10, tyX10_ok, nmX10⟩
theorem fX4_13 : GFld RX4 13 4 0 true (.array .int) := ⟨TX4, _, tyX4, gcX4, by decide, rfl, (W0_in (List.mem_of_getElem? (i := 110) (by decide +kernel)) rfl), rfl, rfl⟩
theorem fX4_19 : GFld RX4 19 4 1 false (.int) := ⟨TX4, _, tyX4, gcX4, by decide, rfl, (W0_in (List.mem_of_getElem? (i := 111) (by decide +kernel)) rfl), rfl, rfl⟩
theorem fX6_9 : GFld RX6 9 6 0 true (.array .byte) := ⟨TX6, _, tyX6, gcX6, by decide, rfl, (W0_in (List.mem_of_getElem? (i := 126) (by decide +kernel)) rfl), rfl, rfl⟩
theorem fX6_22 : GFld RX6 22 6 1 false (.int) := ⟨TX6, _, tyX6, gcX6, by decide, rfl, (W0_in (List.mem_of_getElem? (i := 127) (by decide +kernel)) rfl), rfl, rfl⟩
theorem fX6_15 : GFld RX6 15 6 2 true (.array .int) := ⟨TX6, _, tyX6, gcX6, by decide, rfl, (W0_in (List.mem_of_getElem? (i := 128) (by decide +kernel)) rfl), rfl, rfl⟩
theorem fX6_19 : GFld RX6 19 6 3 true (.array .int) := ⟨TX6, _, tyX6, gcX6, by decide, rfl, (W0_in (List.mem_of_getElem? (i := 129) (by decide +kernel)) rfl), rfl, rfl⟩
theorem fX6_26 : GFld RX6 26 6 4 false (.int) := ⟨TX6, _, tyX6, gcX6, by decide, rfl, (W0_in (List.mem_of_getElem? (i := 130) (by decide +kernel)) rfl), rfl, rfl⟩
theorem fX6_43 : GFld RX6 43 6 5 false (.int) := ⟨TX6, _, tyX6, gcX6, by decide, rfl, (W0_in (List.mem_of_getElem? (i := 131) (by decide +kernel)) rfl), rfl, rfl⟩
theorem fX3_13 : GFld RX3 13 3 0 true (.int) := ⟨TX3, _, tyX3, gcX3, by decide, rfl, (W0_in (List.mem_of_getElem? (i := 162) (by decide +kernel)) rfl), rfl, rfl⟩
theorem fX0_41 : GFld RX0 41 0 0 true (.object "PolyBench$Rests") := ⟨TX0, _, tyX0, gcX0, by decide, rfl, (W0_in (List.mem_of_getElem? (i := 174) (by decide +kernel)) rfl), rfl, rfl⟩
theorem fX0_14 : GFld RX0 14 0 1 true (.object "PolyBench$Row") := ⟨TX0, _, tyX0, gcX0, by decide, rfl, (W0_in (List.mem_of_getElem? (i := 175) (by decide +kernel)) rfl), rfl, rfl⟩
theorem fX0_20 : GFld RX0 20 0 2 true (.object "PolyBench$Row") := ⟨TX0, _, tyX0, gcX0, by decide, rfl, (W0_in (List.mem_of_getElem? (i := 176) (by decide +kernel)) rfl), rfl, rfl⟩
theorem fX0_23 : GFld RX0 23 0 3 true (.object "PolyBench$Row") := ⟨TX0, _, tyX0, gcX0, by decide, rfl, (W0_in (List.mem_of_getElem? (i := 177) (by decide +kernel)) rfl), rfl, rfl⟩
theorem fX0_26 : GFld RX0 26 0 4 true (.object "PolyBench$Row") := ⟨TX0, _, tyX0, gcX0, by decide, rfl, (W0_in (List.mem_of_getElem? (i := 178) (by decide +kernel)) rfl), rfl, rfl⟩
theorem fX0_29 : GFld RX0 29 0 5 false (.object "PolyBench$Row") := ⟨TX0, _, tyX0, gcX0, by decide, rfl, (W0_in (List.mem_of_getElem? (i := 179) (by decide +kernel)) rfl), rfl, rfl⟩
theorem fX0_32 : GFld RX0 32 0 6 false (.object "PolyBench$Row") := ⟨TX0, _, tyX0, gcX0, by decide, rfl, (W0_in (List.mem_of_getElem? (i := 180) (by decide +kernel)) rfl), rfl, rfl⟩
theorem fX0_35 : GFld RX0 35 0 7 false (.object "PolyBench$Row") := ⟨TX0, _, tyX0, gcX0, by decide, rfl, (W0_in (List.mem_of_getElem? (i := 181) (by decide +kernel)) rfl), rfl, rfl⟩
theorem fX0_38 : GFld RX0 38 0 8 false (.object "PolyBench$Row") := ⟨TX0, _, tyX0, gcX0, by decide, rfl, (W0_in (List.mem_of_getElem? (i := 182) (by decide +kernel)) rfl), rfl, rfl⟩
theorem fX2_39 : GFld RX2 39 2 0 true (.object "PolyBench$Rests") := ⟨TX2, _, tyX2, gcX2, by decide, rfl, (W0_in (List.mem_of_getElem? (i := 210) (by decide +kernel)) rfl), rfl, rfl⟩
theorem fX2_43 : GFld RX2 43 2 1 true (.object "PolyBench$Algebra") := ⟨TX2, _, tyX2, gcX2, by decide, rfl, (W0_in (List.mem_of_getElem? (i := 211) (by decide +kernel)) rfl), rfl, rfl⟩
theorem fX2_9 : GFld RX2 9 2 2 true (.array .int) := ⟨TX2, _, tyX2, gcX2, by decide, rfl, (W0_in (List.mem_of_getElem? (i := 212) (by decide +kernel)) rfl), rfl, rfl⟩
theorem fX2_15 : GFld RX2 15 2 3 true (.array .int) := ⟨TX2, _, tyX2, gcX2, by decide, rfl, (W0_in (List.mem_of_getElem? (i := 213) (by decide +kernel)) rfl), rfl, rfl⟩
theorem fX2_47 : GFld RX2 47 2 4 false (.int) := ⟨TX2, _, tyX2, gcX2, by decide, rfl, (W0_in (List.mem_of_getElem? (i := 214) (by decide +kernel)) rfl), rfl, rfl⟩
theorem fX2_23 : GFld RX2 23 2 5 true (.object "PolyBench$Row") := ⟨TX2, _, tyX2, gcX2, by decide, rfl, (W0_in (List.mem_of_getElem? (i := 215) (by decide +kernel)) rfl), rfl, rfl⟩
theorem fX2_27 : GFld RX2 27 2 6 true (.object "PolyBench$Row") := ⟨TX2, _, tyX2, gcX2, by decide, rfl, (W0_in (List.mem_of_getElem? (i := 216) (by decide +kernel)) rfl), rfl, rfl⟩
theorem fX2_30 : GFld RX2 30 2 7 false (.object "PolyBench$Row") := ⟨TX2, _, tyX2, gcX2, by decide, rfl, (W0_in (List.mem_of_getElem? (i := 217) (by decide +kernel)) rfl), rfl, rfl⟩
theorem fX2_33 : GFld RX2 33 2 8 false (.object "PolyBench$Row") := ⟨TX2, _, tyX2, gcX2, by decide, rfl, (W0_in (List.mem_of_getElem? (i := 218) (by decide +kernel)) rfl), rfl, rfl⟩
theorem fX2_36 : GFld RX2 36 2 9 false (.object "PolyBench$Row") := ⟨TX2, _, tyX2, gcX2, by decide, rfl, (W0_in (List.mem_of_getElem? (i := 219) (by decide +kernel)) rfl), rfl, rfl⟩
theorem fX7_9 : GFld RX7 9 7 0 true (.array .int) := ⟨TX7, _, tyX7, gcX7, by decide, rfl, (W0_in (List.mem_of_getElem? (i := 253) (by decide +kernel)) rfl), rfl, rfl⟩
theorem fX7_21 : GFld RX7 21 7 1 false (.int) := ⟨TX7, _, tyX7, gcX7, by decide, rfl, (W0_in (List.mem_of_getElem? (i := 254) (by decide +kernel)) rfl), rfl, rfl⟩
theorem fX7_15 : GFld RX7 15 7 2 true (.array .int) := ⟨TX7, _, tyX7, gcX7, by decide, rfl, (W0_in (List.mem_of_getElem? (i := 255) (by decide +kernel)) rfl), rfl, rfl⟩
theorem fX7_25 : GFld RX7 25 7 3 false (.int) := ⟨TX7, _, tyX7, gcX7, by decide, rfl, (W0_in (List.mem_of_getElem? (i := 256) (by decide +kernel)) rfl), rfl, rfl⟩
theorem fX7_18 : GFld RX7 18 7 4 true (.array .int) := ⟨TX7, _, tyX7, gcX7, by decide, rfl, (W0_in (List.mem_of_getElem? (i := 257) (by decide +kernel)) rfl), rfl, rfl⟩
theorem fX7_32 : GFld RX7 32 7 5 false (.int) := ⟨TX7, _, tyX7, gcX7, by decide, rfl, (W0_in (List.mem_of_getElem? (i := 258) (by decide +kernel)) rfl), rfl, rfl⟩
theorem fX1_22 : GFld RX1 22 1 0 true (.object "PolyBench$Tape") := ⟨TX1, _, tyX1, gcX1, by decide, rfl, (W0_in (List.mem_of_getElem? (i := 272) (by decide +kernel)) rfl), rfl, rfl⟩
theorem fX1_12 : GFld RX1 12 1 1 false (.object "PolyBench$Text") := ⟨TX1, _, tyX1, gcX1, by decide, rfl, (W0_in (List.mem_of_getElem? (i := 273) (by decide +kernel)) rfl), rfl, rfl⟩
theorem fX1_32 : GFld RX1 32 1 2 false (.int) := ⟨TX1, _, tyX1, gcX1, by decide, rfl, (W0_in (List.mem_of_getElem? (i := 274) (by decide +kernel)) rfl), rfl, rfl⟩
theorem fX1_29 : GFld RX1 29 1 3 false (.int) := ⟨TX1, _, tyX1, gcX1, by decide, rfl, (W0_in (List.mem_of_getElem? (i := 275) (by decide +kernel)) rfl), rfl, rfl⟩
theorem fX1_18 : GFld RX1 18 1 4 false (.int) := ⟨TX1, _, tyX1, gcX1, by decide, rfl, (W0_in (List.mem_of_getElem? (i := 276) (by decide +kernel)) rfl), rfl, rfl⟩
theorem fX5_11 : GFld RX5 11 5 0 false (.int) := ⟨TX5, _, tyX5, gcX5, by decide, rfl, (W0_in (List.mem_of_getElem? (i := 293) (by decide +kernel)) rfl), rfl, rfl⟩
theorem fX5_19 : GFld RX5 19 5 1 false (.int) := ⟨TX5, _, tyX5, gcX5, by decide, rfl, (W0_in (List.mem_of_getElem? (i := 294) (by decide +kernel)) rfl), rfl, rfl⟩
theorem fX5_15 : GFld RX5 15 5 2 true (.array .int) := ⟨TX5, _, tyX5, gcX5, by decide, rfl, (W0_in (List.mem_of_getElem? (i := 295) (by decide +kernel)) rfl), rfl, rfl⟩
theorem fX9_54 : GFld RX9 54 9 0 true (.object "PolyBench$Rests") := ⟨TX9, _, tyX9, gcX9, by decide, rfl, (W0_in (List.mem_of_getElem? (i := 502) (by decide +kernel)) rfl), rfl, rfl⟩
theorem fX9_63 : GFld RX9 63 9 1 true (.object "PolyBench$Algebra") := ⟨TX9, _, tyX9, gcX9, by decide, rfl, (W0_in (List.mem_of_getElem? (i := 503) (by decide +kernel)) rfl), rfl, rfl⟩
theorem fX9_11 : GFld RX9 11 9 2 true (.array (.object "PolyBench$Row")) := ⟨TX9, _, tyX9, gcX9, by decide, rfl, (W0_in (List.mem_of_getElem? (i := 504) (by decide +kernel)) rfl), rfl, rfl⟩
theorem fX9_18 : GFld RX9 18 9 3 true (.object "PolyBench$Row") := ⟨TX9, _, tyX9, gcX9, by decide, rfl, (W0_in (List.mem_of_getElem? (i := 505) (by decide +kernel)) rfl), rfl, rfl⟩
theorem fX9_24 : GFld RX9 24 9 4 true (.array (.object "PolyBench$Way")) := ⟨TX9, _, tyX9, gcX9, by decide, rfl, (W0_in (List.mem_of_getElem? (i := 506) (by decide +kernel)) rfl), rfl, rfl⟩
theorem fX9_148 : GFld RX9 148 9 5 false (.int) := ⟨TX9, _, tyX9, gcX9, by decide, rfl, (W0_in (List.mem_of_getElem? (i := 507) (by decide +kernel)) rfl), rfl, rfl⟩
theorem fX9_254 : GFld RX9 254 9 6 false (.long) := ⟨TX9, _, tyX9, gcX9, by decide, rfl, (W0_in (List.mem_of_getElem? (i := 508) (by decide +kernel)) rfl), rfl, rfl⟩
theorem fX9_31 : GFld RX9 31 9 7 true (.object "PolyBench$Tape") := ⟨TX9, _, tyX9, gcX9, by decide, rfl, (W0_in (List.mem_of_getElem? (i := 509) (by decide +kernel)) rfl), rfl, rfl⟩
theorem fX9_81 : GFld RX9 81 9 8 true (.object "PolyBench$Grammar") := ⟨TX9, _, tyX9, gcX9, by decide, rfl, (W0_in (List.mem_of_getElem? (i := 510) (by decide +kernel)) rfl), rfl, rfl⟩
theorem fX9_37 : GFld RX9 37 9 9 true (.array (.object "PolyBench$Text")) := ⟨TX9, _, tyX9, gcX9, by decide, rfl, (W0_in (List.mem_of_getElem? (i := 511) (by decide +kernel)) rfl), rfl, rfl⟩
theorem fX9_103 : GFld RX9 103 9 10 false (.int) := ⟨TX9, _, tyX9, gcX9, by decide, rfl, (W0_in (List.mem_of_getElem? (i := 512) (by decide +kernel)) rfl), rfl, rfl⟩
theorem fX9_175 : GFld RX9 175 9 11 false (.int) := ⟨TX9, _, tyX9, gcX9, by decide, rfl, (W0_in (List.mem_of_getElem? (i := 513) (by decide +kernel)) rfl), rfl, rfl⟩
theorem fX9_41 : GFld RX9 41 9 12 true (.array .int) := ⟨TX9, _, tyX9, gcX9, by decide, rfl, (W0_in (List.mem_of_getElem? (i := 514) (by decide +kernel)) rfl), rfl, rfl⟩
theorem fX9_72 : GFld RX9 72 9 13 true (.object "PolyBench$Places") := ⟨TX9, _, tyX9, gcX9, by decide, rfl, (W0_in (List.mem_of_getElem? (i := 515) (by decide +kernel)) rfl), rfl, rfl⟩
theorem fX9_47 : GFld RX9 47 9 14 true (.array (.object "PolyBench$Sheet")) := ⟨TX9, _, tyX9, gcX9, by decide, rfl, (W0_in (List.mem_of_getElem? (i := 516) (by decide +kernel)) rfl), rfl, rfl⟩
theorem fX8_15 : GFld RX8 15 8 0 true (.int) := ⟨TX8, _, tyX8, gcX8, by decide, rfl, (W0_in (List.mem_of_getElem? (i := 627) (by decide +kernel)) rfl), rfl, rfl⟩
theorem fX8_19 : GFld RX8 19 8 1 true (.int) := ⟨TX8, _, tyX8, gcX8, by decide, rfl, (W0_in (List.mem_of_getElem? (i := 628) (by decide +kernel)) rfl), rfl, rfl⟩
theorem fX8_9 : GFld RX8 9 8 2 true (.array .int) := ⟨TX8, _, tyX8, gcX8, by decide, rfl, (W0_in (List.mem_of_getElem? (i := 629) (by decide +kernel)) rfl), rfl, rfl⟩
theorem fX10_64 : GFld RX10 64 10 1 true (.int) := ⟨TX10, _, tyX10, gcX10, by decide, rfl, (W0_in (List.mem_of_getElem? (i := 1052) (by decide +kernel)) rfl), rfl, rfl⟩
theorem fX10_13 : GFld RX10 13 10 2 true (.array .int) := ⟨TX10, _, tyX10, gcX10, by decide, rfl, (W0_in (List.mem_of_getElem? (i := 1053) (by decide +kernel)) rfl), rfl, rfl⟩
theorem fX10_112 : GFld RX10 112 10 3 false (.int) := ⟨TX10, _, tyX10, gcX10, by decide, rfl, (W0_in (List.mem_of_getElem? (i := 1054) (by decide +kernel)) rfl), rfl, rfl⟩
theorem fX10_17 : GFld RX10 17 10 4 true (.array .int) := ⟨TX10, _, tyX10, gcX10, by decide, rfl, (W0_in (List.mem_of_getElem? (i := 1055) (by decide +kernel)) rfl), rfl, rfl⟩
theorem fX10_20 : GFld RX10 20 10 5 true (.array .int) := ⟨TX10, _, tyX10, gcX10, by decide, rfl, (W0_in (List.mem_of_getElem? (i := 1056) (by decide +kernel)) rfl), rfl, rfl⟩
theorem fX10_150 : GFld RX10 150 10 6 false (.long) := ⟨TX10, _, tyX10, gcX10, by decide, rfl, (W0_in (List.mem_of_getElem? (i := 1057) (by decide +kernel)) rfl), rfl, rfl⟩
theorem fX10_23 : GFld RX10 23 10 7 true (.array .long) := ⟨TX10, _, tyX10, gcX10, by decide, rfl, (W0_in (List.mem_of_getElem? (i := 1058) (by decide +kernel)) rfl), rfl, rfl⟩
theorem fX10_27 : GFld RX10 27 10 8 true (.array .long) := ⟨TX10, _, tyX10, gcX10, by decide, rfl, (W0_in (List.mem_of_getElem? (i := 1059) (by decide +kernel)) rfl), rfl, rfl⟩
theorem fX10_30 : GFld RX10 30 10 9 true (.array .int) := ⟨TX10, _, tyX10, gcX10, by decide, rfl, (W0_in (List.mem_of_getElem? (i := 1060) (by decide +kernel)) rfl), rfl, rfl⟩
theorem fX10_33 : GFld RX10 33 10 10 true (.array .int) := ⟨TX10, _, tyX10, gcX10, by decide, rfl, (W0_in (List.mem_of_getElem? (i := 1061) (by decide +kernel)) rfl), rfl, rfl⟩
theorem fX10_79 : GFld RX10 79 10 11 false (.int) := ⟨TX10, _, tyX10, gcX10, by decide, rfl, (W0_in (List.mem_of_getElem? (i := 1062) (by decide +kernel)) rfl), rfl, rfl⟩
theorem fX10_258 : GFld RX10 258 10 12 false (.int) := ⟨TX10, _, tyX10, gcX10, by decide, rfl, (W0_in (List.mem_of_getElem? (i := 1063) (by decide +kernel)) rfl), rfl, rfl⟩
theorem fX10_36 : GFld RX10 36 10 13 true (.array .int) := ⟨TX10, _, tyX10, gcX10, by decide, rfl, (W0_in (List.mem_of_getElem? (i := 1064) (by decide +kernel)) rfl), rfl, rfl⟩
theorem fX10_165 : GFld RX10 165 10 14 false (.int) := ⟨TX10, _, tyX10, gcX10, by decide, rfl, (W0_in (List.mem_of_getElem? (i := 1065) (by decide +kernel)) rfl), rfl, rfl⟩
theorem fX10_171 : GFld RX10 171 10 15 false (.int) := ⟨TX10, _, tyX10, gcX10, by decide, rfl, (W0_in (List.mem_of_getElem? (i := 1066) (by decide +kernel)) rfl), rfl, rfl⟩
theorem fX10_168 : GFld RX10 168 10 16 false (.int) := ⟨TX10, _, tyX10, gcX10, by decide, rfl, (W0_in (List.mem_of_getElem? (i := 1067) (by decide +kernel)) rfl), rfl, rfl⟩
theorem fX10_183 : GFld RX10 183 10 17 false (.int) := ⟨TX10, _, tyX10, gcX10, by decide, rfl, (W0_in (List.mem_of_getElem? (i := 1068) (by decide +kernel)) rfl), rfl, rfl⟩
theorem fX10_180 : GFld RX10 180 10 18 false (.int) := ⟨TX10, _, tyX10, gcX10, by decide, rfl, (W0_in (List.mem_of_getElem? (i := 1069) (by decide +kernel)) rfl), rfl, rfl⟩
theorem fX10_186 : GFld RX10 186 10 19 false (.int) := ⟨TX10, _, tyX10, gcX10, by decide, rfl, (W0_in (List.mem_of_getElem? (i := 1070) (by decide +kernel)) rfl), rfl, rfl⟩
theorem fX10_174 : GFld RX10 174 10 20 false (.int) := ⟨TX10, _, tyX10, gcX10, by decide, rfl, (W0_in (List.mem_of_getElem? (i := 1071) (by decide +kernel)) rfl), rfl, rfl⟩
theorem fX10_196 : GFld RX10 196 10 21 false (.int) := ⟨TX10, _, tyX10, gcX10, by decide, rfl, (W0_in (List.mem_of_getElem? (i := 1072) (by decide +kernel)) rfl), rfl, rfl⟩
theorem fX10_189 : GFld RX10 189 10 22 false (.boolean) := ⟨TX10, _, tyX10, gcX10, by decide, rfl, (W0_in (List.mem_of_getElem? (i := 1073) (by decide +kernel)) rfl), rfl, rfl⟩
theorem fX10_193 : GFld RX10 193 10 23 false (.int) := ⟨TX10, _, tyX10, gcX10, by decide, rfl, (W0_in (List.mem_of_getElem? (i := 1074) (by decide +kernel)) rfl), rfl, rfl⟩
theorem fX10_205 : GFld RX10 205 10 24 false (.int) := ⟨TX10, _, tyX10, gcX10, by decide, rfl, (W0_in (List.mem_of_getElem? (i := 1075) (by decide +kernel)) rfl), rfl, rfl⟩
theorem fX10_208 : GFld RX10 208 10 25 false (.int) := ⟨TX10, _, tyX10, gcX10, by decide, rfl, (W0_in (List.mem_of_getElem? (i := 1076) (by decide +kernel)) rfl), rfl, rfl⟩
theorem fX10_211 : GFld RX10 211 10 26 false (.int) := ⟨TX10, _, tyX10, gcX10, by decide, rfl, (W0_in (List.mem_of_getElem? (i := 1077) (by decide +kernel)) rfl), rfl, rfl⟩
theorem fX10_214 : GFld RX10 214 10 27 false (.int) := ⟨TX10, _, tyX10, gcX10, by decide, rfl, (W0_in (List.mem_of_getElem? (i := 1078) (by decide +kernel)) rfl), rfl, rfl⟩
theorem fX10_217 : GFld RX10 217 10 28 false (.int) := ⟨TX10, _, tyX10, gcX10, by decide, rfl, (W0_in (List.mem_of_getElem? (i := 1079) (by decide +kernel)) rfl), rfl, rfl⟩
theorem fX10_284 : GFld RX10 284 10 29 false (.int) := ⟨TX10, _, tyX10, gcX10, by decide, rfl, (W0_in (List.mem_of_getElem? (i := 1080) (by decide +kernel)) rfl), rfl, rfl⟩
theorem fX10_39 : GFld RX10 39 10 30 true (.array .int) := ⟨TX10, _, tyX10, gcX10, by decide, rfl, (W0_in (List.mem_of_getElem? (i := 1081) (by decide +kernel)) rfl), rfl, rfl⟩
theorem fX10_42 : GFld RX10 42 10 31 true (.array .int) := ⟨TX10, _, tyX10, gcX10, by decide, rfl, (W0_in (List.mem_of_getElem? (i := 1082) (by decide +kernel)) rfl), rfl, rfl⟩
theorem fX10_45 : GFld RX10 45 10 32 true (.array .int) := ⟨TX10, _, tyX10, gcX10, by decide, rfl, (W0_in (List.mem_of_getElem? (i := 1083) (by decide +kernel)) rfl), rfl, rfl⟩
theorem fX10_48 : GFld RX10 48 10 33 true (.array .int) := ⟨TX10, _, tyX10, gcX10, by decide, rfl, (W0_in (List.mem_of_getElem? (i := 1084) (by decide +kernel)) rfl), rfl, rfl⟩
theorem fX10_296 : GFld RX10 296 10 34 false (.int) := ⟨TX10, _, tyX10, gcX10, by decide, rfl, (W0_in (List.mem_of_getElem? (i := 1085) (by decide +kernel)) rfl), rfl, rfl⟩
theorem fX10_51 : GFld RX10 51 10 35 true (.array .boolean) := ⟨TX10, _, tyX10, gcX10, by decide, rfl, (W0_in (List.mem_of_getElem? (i := 1086) (by decide +kernel)) rfl), rfl, rfl⟩
theorem fX10_55 : GFld RX10 55 10 36 true (.array .int) := ⟨TX10, _, tyX10, gcX10, by decide, rfl, (W0_in (List.mem_of_getElem? (i := 1087) (by decide +kernel)) rfl), rfl, rfl⟩
theorem fX10_58 : GFld RX10 58 10 37 true (.array .int) := ⟨TX10, _, tyX10, gcX10, by decide, rfl, (W0_in (List.mem_of_getElem? (i := 1088) (by decide +kernel)) rfl), rfl, rfl⟩
theorem fX10_61 : GFld RX10 61 10 38 true (.array .int) := ⟨TX10, _, tyX10, gcX10, by decide, rfl, (W0_in (List.mem_of_getElem? (i := 1089) (by decide +kernel)) rfl), rfl, rfl⟩
abbrev mX0_init : GM := (yX0_init, cX0_init, 2, none)
theorem kX0_init : GCode mX0_init 1 := ⟨(W0_in (List.mem_of_getElem? (i := 170) (by decide +kernel)) rfl), (W0_in (List.mem_of_getElem? (i := 81) (by decide +kernel)) rfl), by decide +kernel, by decide +kernel, by decide +kernel⟩
abbrev mX0_evaluated : GM := (yX0_evaluated, cX0_evaluated, 5, some .int)
theorem kX0_evaluated : GCode mX0_evaluated 2 := ⟨(W0_in (List.mem_of_getElem? (i := 856) (by decide +kernel)) rfl), (W0_in (List.mem_of_getElem? (i := 81) (by decide +kernel)) rfl), by decide +kernel, by decide +kernel, by decide +kernel⟩
abbrev mX0_addMultiple : GM := (yX0_addMultiple, cX0_addMultiple, 6, none)
theorem kX0_addMultiple : GCode mX0_addMultiple 4 := ⟨(W0_in (List.mem_of_getElem? (i := 600) (by decide +kernel)) rfl), (W0_in (List.mem_of_getElem? (i := 81) (by decide +kernel)) rfl), by decide +kernel, by decide +kernel, by decide +kernel⟩
abbrev mX0_multiplied : GM := (yX0_multiplied, cX0_multiplied, 4, some (.object "PolyBench$Row"))
theorem kX0_multiplied : GCode mX0_multiplied 2 := ⟨(W0_in (List.mem_of_getElem? (i := 669) (by decide +kernel)) rfl), (W0_in (List.mem_of_getElem? (i := 81) (by decide +kernel)) rfl), by decide +kernel, by decide +kernel, by decide +kernel⟩
abbrev mX0_pairs : GM := (yX0_pairs, cX0_pairs, 7, some .long)
theorem kX0_pairs : GCode mX0_pairs 3 := ⟨(W0_in (List.mem_of_getElem? (i := 673) (by decide +kernel)) rfl), (W0_in (List.mem_of_getElem? (i := 81) (by decide +kernel)) rfl), by decide +kernel, by decide +kernel, by decide +kernel⟩
abbrev mX0_reduce : GM := (yX0_reduce, cX0_reduce, 7, some (.object "PolyBench$Row"))
theorem kX0_reduce : GCode mX0_reduce 2 := ⟨(W0_in (List.mem_of_getElem? (i := 771) (by decide +kernel)) rfl), (W0_in (List.mem_of_getElem? (i := 81) (by decide +kernel)) rfl), by decide +kernel, by decide +kernel, by decide +kernel⟩
abbrev mX0_euclid : GM := (yX0_euclid, cX0_euclid, 7, none)
theorem kX0_euclid : GCode mX0_euclid 3 := ⟨(W0_in (List.mem_of_getElem? (i := 801) (by decide +kernel)) rfl), (W0_in (List.mem_of_getElem? (i := 81) (by decide +kernel)) rfl), by decide +kernel, by decide +kernel, by decide +kernel⟩
abbrev mX0_commonDivisor : GM := (yX0_commonDivisor, cX0_commonDivisor, 3, some (.object "PolyBench$Row"))
theorem kX0_commonDivisor : GCode mX0_commonDivisor 2 := ⟨(W0_in (List.mem_of_getElem? (i := 797) (by decide +kernel)) rfl), (W0_in (List.mem_of_getElem? (i := 81) (by decide +kernel)) rfl), by decide +kernel, by decide +kernel, by decide +kernel⟩
abbrev mX0_leastCofactor : GM := (yX0_leastCofactor, cX0_leastCofactor, 3, some (.object "PolyBench$Row"))
theorem kX0_leastCofactor : GCode mX0_leastCofactor 2 := ⟨(W0_in (List.mem_of_getElem? (i := 812) (by decide +kernel)) rfl), (W0_in (List.mem_of_getElem? (i := 81) (by decide +kernel)) rfl), by decide +kernel, by decide +kernel, by decide +kernel⟩
abbrev mX0_lastByFactor : GM := (yX0_lastByFactor, cX0_lastByFactor, 1, some (.object "PolyBench$Row"))
theorem kX0_lastByFactor : GCode mX0_lastByFactor 0 := ⟨(W0_in (List.mem_of_getElem? (i := 957) (by decide +kernel)) rfl), (W0_in (List.mem_of_getElem? (i := 81) (by decide +kernel)) rfl), by decide +kernel, by decide +kernel, by decide +kernel⟩
abbrev mX0_composed : GM := (yX0_composed, cX0_composed, 4, some (.object "PolyBench$Row"))
theorem kX0_composed : GCode mX0_composed 2 := ⟨(W0_in (List.mem_of_getElem? (i := 820) (by decide +kernel)) rfl), (W0_in (List.mem_of_getElem? (i := 81) (by decide +kernel)) rfl), by decide +kernel, by decide +kernel, by decide +kernel⟩
abbrev mX0_moved : GM := (yX0_moved, cX0_moved, 3, some (.object "PolyBench$Row"))
theorem kX0_moved : GCode mX0_moved 2 := ⟨(W0_in (List.mem_of_getElem? (i := 828) (by decide +kernel)) rfl), (W0_in (List.mem_of_getElem? (i := 81) (by decide +kernel)) rfl), by decide +kernel, by decide +kernel, by decide +kernel⟩
abbrev mX0_partMoved : GM := (yX0_partMoved, cX0_partMoved, 6, some (.object "PolyBench$Row"))
theorem kX0_partMoved : GCode mX0_partMoved 3 := ⟨(W0_in (List.mem_of_getElem? (i := 832) (by decide +kernel)) rfl), (W0_in (List.mem_of_getElem? (i := 81) (by decide +kernel)) rfl), by decide +kernel, by decide +kernel, by decide +kernel⟩
abbrev mX0_lineAt : GM := (yX0_lineAt, cX0_lineAt, 2, some (.object "PolyBench$Row"))
theorem kX0_lineAt : GCode mX0_lineAt 1 := ⟨(W0_in (List.mem_of_getElem? (i := 848) (by decide +kernel)) rfl), (W0_in (List.mem_of_getElem? (i := 81) (by decide +kernel)) rfl), by decide +kernel, by decide +kernel, by decide +kernel⟩
abbrev mX0_seekRoots : GM := (yX0_seekRoots, cX0_seekRoots, 3, some .int)
theorem kX0_seekRoots : GCode mX0_seekRoots 1 := ⟨(W0_in (List.mem_of_getElem? (i := 840) (by decide +kernel)) rfl), (W0_in (List.mem_of_getElem? (i := 81) (by decide +kernel)) rfl), by decide +kernel, by decide +kernel, by decide +kernel⟩
abbrev mX0_soughtRoot : GM := (yX0_soughtRoot, cX0_soughtRoot, 4, some .int)
theorem kX0_soughtRoot : GCode mX0_soughtRoot 1 := ⟨(W0_in (List.mem_of_getElem? (i := 852) (by decide +kernel)) rfl), (W0_in (List.mem_of_getElem? (i := 81) (by decide +kernel)) rfl), by decide +kernel, by decide +kernel, by decide +kernel⟩
abbrev mX1_init : GM := (yX1_init, cX1_init, 2, none)
theorem kX1_init : GCode mX1_init 1 := ⟨(W0_in (List.mem_of_getElem? (i := 245) (by decide +kernel)) rfl), (W0_in (List.mem_of_getElem? (i := 83) (by decide +kernel)) rfl), by decide +kernel, by decide +kernel, by decide +kernel⟩
abbrev mX1_readInto : GM := (yX1_readInto, cX1_readInto, 2, some .int)
theorem kX1_readInto : GCode mX1_readInto 1 := ⟨(W0_in (List.mem_of_getElem? (i := 417) (by decide +kernel)) rfl), (W0_in (List.mem_of_getElem? (i := 83) (by decide +kernel)) rfl), by decide +kernel, by decide +kernel, by decide +kernel⟩
abbrev mX1_part : GM := (yX1_part, cX1_part, 2, none)
theorem kX1_part : GCode mX1_part 1 := ⟨(W0_in (List.mem_of_getElem? (i := 425) (by decide +kernel)) rfl), (W0_in (List.mem_of_getElem? (i := 83) (by decide +kernel)) rfl), by decide +kernel, by decide +kernel, by decide +kernel⟩
abbrev mX1_stands : GM := (yX1_stands, cX1_stands, 2, some .boolean)
theorem kX1_stands : GCode mX1_stands 1 := ⟨(W0_in (List.mem_of_getElem? (i := 433) (by decide +kernel)) rfl), (W0_in (List.mem_of_getElem? (i := 83) (by decide +kernel)) rfl), by decide +kernel, by decide +kernel, by decide +kernel⟩
abbrev mX1_took : GM := (yX1_took, cX1_took, 2, some .boolean)
theorem kX1_took : GCode mX1_took 1 := ⟨(W0_in (List.mem_of_getElem? (i := 493) (by decide +kernel)) rfl), (W0_in (List.mem_of_getElem? (i := 83) (by decide +kernel)) rfl), by decide +kernel, by decide +kernel, by decide +kernel⟩
abbrev mX1_need : GM := (yX1_need, cX1_need, 2, none)
theorem kX1_need : GCode mX1_need 1 := ⟨(W0_in (List.mem_of_getElem? (i := 429) (by decide +kernel)) rfl), (W0_in (List.mem_of_getElem? (i := 83) (by decide +kernel)) rfl), by decide +kernel, by decide +kernel, by decide +kernel⟩
abbrev mX1_fail : GM := (yX1_fail, cX1_fail, 1, none)
theorem kX1_fail : GCode mX1_fail 0 := ⟨(W0_in (List.mem_of_getElem? (i := 441) (by decide +kernel)) rfl), (W0_in (List.mem_of_getElem? (i := 83) (by decide +kernel)) rfl), by decide +kernel, by decide +kernel, by decide +kernel⟩
abbrev mX1_opened : GM := (yX1_opened, cX1_opened, 2, some .boolean)
theorem kX1_opened : GCode mX1_opened 1 := ⟨(W0_in (List.mem_of_getElem? (i := 461) (by decide +kernel)) rfl), (W0_in (List.mem_of_getElem? (i := 83) (by decide +kernel)) rfl), by decide +kernel, by decide +kernel, by decide +kernel⟩
abbrev mX1_either : GM := (yX1_either, cX1_either, 2, none)
theorem kX1_either : GCode mX1_either 0 := ⟨(W0_in (List.mem_of_getElem? (i := 449) (by decide +kernel)) rfl), (W0_in (List.mem_of_getElem? (i := 83) (by decide +kernel)) rfl), by decide +kernel, by decide +kernel, by decide +kernel⟩
abbrev mX1_both : GM := (yX1_both, cX1_both, 2, none)
theorem kX1_both : GCode mX1_both 0 := ⟨(W0_in (List.mem_of_getElem? (i := 453) (by decide +kernel)) rfl), (W0_in (List.mem_of_getElem? (i := 83) (by decide +kernel)) rfl), by decide +kernel, by decide +kernel, by decide +kernel⟩
abbrev mX1_negated : GM := (yX1_negated, cX1_negated, 1, none)
theorem kX1_negated : GCode mX1_negated 0 := ⟨(W0_in (List.mem_of_getElem? (i := 457) (by decide +kernel)) rfl), (W0_in (List.mem_of_getElem? (i := 83) (by decide +kernel)) rfl), by decide +kernel, by decide +kernel, by decide +kernel⟩
abbrev mX1_summed : GM := (yX1_summed, cX1_summed, 3, none)
theorem kX1_summed : GCode mX1_summed 0 := ⟨(W0_in (List.mem_of_getElem? (i := 469) (by decide +kernel)) rfl), (W0_in (List.mem_of_getElem? (i := 83) (by decide +kernel)) rfl), by decide +kernel, by decide +kernel, by decide +kernel⟩
abbrev mX1_term : GM := (yX1_term, cX1_term, 2, none)
theorem kX1_term : GCode mX1_term 0 := ⟨(W0_in (List.mem_of_getElem? (i := 473) (by decide +kernel)) rfl), (W0_in (List.mem_of_getElem? (i := 83) (by decide +kernel)) rfl), by decide +kernel, by decide +kernel, by decide +kernel⟩
abbrev mX1_one : GM := (yX1_one, cX1_one, 1, none)
theorem kX1_one : GCode mX1_one 0 := ⟨(W0_in (List.mem_of_getElem? (i := 477) (by decide +kernel)) rfl), (W0_in (List.mem_of_getElem? (i := 83) (by decide +kernel)) rfl), by decide +kernel, by decide +kernel, by decide +kernel⟩
abbrev mX1_numberOrName : GM := (yX1_numberOrName, cX1_numberOrName, 2, none)
theorem kX1_numberOrName : GCode mX1_numberOrName 0 := ⟨(W0_in (List.mem_of_getElem? (i := 481) (by decide +kernel)) rfl), (W0_in (List.mem_of_getElem? (i := 83) (by decide +kernel)) rfl), by decide +kernel, by decide +kernel, by decide +kernel⟩
abbrev mX2_init : GM := (yX2_init, cX2_init, 3, none)
theorem kX2_init : GCode mX2_init 2 := ⟨(W0_in (List.mem_of_getElem? (i := 206) (by decide +kernel)) rfl), (W0_in (List.mem_of_getElem? (i := 82) (by decide +kernel)) rfl), by decide +kernel, by decide +kernel, by decide +kernel⟩
abbrev mX2_size : GM := (yX2_size, cX2_size, 1, some .int)
theorem kX2_size : GCode mX2_size 0 := ⟨(W0_in (List.mem_of_getElem? (i := 868) (by decide +kernel)) rfl), (W0_in (List.mem_of_getElem? (i := 82) (by decide +kernel)) rfl), by decide +kernel, by decide +kernel, by decide +kernel⟩
abbrev mX2_wipe : GM := (yX2_wipe, cX2_wipe, 1, none)
theorem kX2_wipe : GCode mX2_wipe 0 := ⟨(W0_in (List.mem_of_getElem? (i := 880) (by decide +kernel)) rfl), (W0_in (List.mem_of_getElem? (i := 82) (by decide +kernel)) rfl), by decide +kernel, by decide +kernel, by decide +kernel⟩
abbrev mX2_append : GM := (yX2_append, cX2_append, 2, none)
theorem kX2_append : GCode mX2_append 1 := ⟨(W0_in (List.mem_of_getElem? (i := 872) (by decide +kernel)) rfl), (W0_in (List.mem_of_getElem? (i := 82) (by decide +kernel)) rfl), by decide +kernel, by decide +kernel, by decide +kernel⟩
abbrev mX2_numberOf : GM := (yX2_numberOf, cX2_numberOf, 2, some .int)
theorem kX2_numberOf : GCode mX2_numberOf 1 := ⟨(W0_in (List.mem_of_getElem? (i := 905) (by decide +kernel)) rfl), (W0_in (List.mem_of_getElem? (i := 82) (by decide +kernel)) rfl), by decide +kernel, by decide +kernel, by decide +kernel⟩
abbrev mX2_valueOf : GM := (yX2_valueOf, cX2_valueOf, 2, some .int)
theorem kX2_valueOf : GCode mX2_valueOf 1 := ⟨(W0_in (List.mem_of_getElem? (i := 892) (by decide +kernel)) rfl), (W0_in (List.mem_of_getElem? (i := 82) (by decide +kernel)) rfl), by decide +kernel, by decide +kernel, by decide +kernel⟩
abbrev mX2_give : GM := (yX2_give, cX2_give, 3, none)
theorem kX2_give : GCode mX2_give 2 := ⟨(W0_in (List.mem_of_getElem? (i := 897) (by decide +kernel)) rfl), (W0_in (List.mem_of_getElem? (i := 82) (by decide +kernel)) rfl), by decide +kernel, by decide +kernel, by decide +kernel⟩
abbrev mX2_timesAhead : GM := (yX2_timesAhead, cX2_timesAhead, 4, some .int)
theorem kX2_timesAhead : GCode mX2_timesAhead 1 := ⟨(W0_in (List.mem_of_getElem? (i := 929) (by decide +kernel)) rfl), (W0_in (List.mem_of_getElem? (i := 82) (by decide +kernel)) rfl), by decide +kernel, by decide +kernel, by decide +kernel⟩
abbrev mX2_hasAlike : GM := (yX2_hasAlike, cX2_hasAlike, 2, some .boolean)
theorem kX2_hasAlike : GCode mX2_hasAlike 0 := ⟨(W0_in (List.mem_of_getElem? (i := 947) (by decide +kernel)) rfl), (W0_in (List.mem_of_getElem? (i := 82) (by decide +kernel)) rfl), by decide +kernel, by decide +kernel, by decide +kernel⟩
abbrev mX2_interpolated : GM := (yX2_interpolated, cX2_interpolated, 6, some (.object "PolyBench$Row"))
theorem kX2_interpolated : GCode mX2_interpolated 0 := ⟨(W0_in (List.mem_of_getElem? (i := 922) (by decide +kernel)) rfl), (W0_in (List.mem_of_getElem? (i := 82) (by decide +kernel)) rfl), by decide +kernel, by decide +kernel, by decide +kernel⟩
abbrev mX2_nearest : GM := (yX2_nearest, cX2_nearest, 2, some (.object "PolyBench$Row"))
theorem kX2_nearest : GCode mX2_nearest 1 := ⟨(W0_in (List.mem_of_getElem? (i := 951) (by decide +kernel)) rfl), (W0_in (List.mem_of_getElem? (i := 82) (by decide +kernel)) rfl), by decide +kernel, by decide +kernel, by decide +kernel⟩
abbrev mX2_wrongFor : GM := (yX2_wrongFor, cX2_wrongFor, 4, some .int)
theorem kX2_wrongFor : GCode mX2_wrongFor 1 := ⟨(W0_in (List.mem_of_getElem? (i := 961) (by decide +kernel)) rfl), (W0_in (List.mem_of_getElem? (i := 82) (by decide +kernel)) rfl), by decide +kernel, by decide +kernel, by decide +kernel⟩
abbrev mX2_seekRelation : GM := (yX2_seekRelation, cX2_seekRelation, 8, some .int)
theorem kX2_seekRelation : GCode mX2_seekRelation 0 := ⟨(W0_in (List.mem_of_getElem? (i := 970) (by decide +kernel)) rfl), (W0_in (List.mem_of_getElem? (i := 82) (by decide +kernel)) rfl), by decide +kernel, by decide +kernel, by decide +kernel⟩
abbrev mX2_lack : GM := (yX2_lack, cX2_lack, 5, some .int)
theorem kX2_lack : GCode mX2_lack 1 := ⟨(W0_in (List.mem_of_getElem? (i := 974) (by decide +kernel)) rfl), (W0_in (List.mem_of_getElem? (i := 82) (by decide +kernel)) rfl), by decide +kernel, by decide +kernel, by decide +kernel⟩
abbrev mX2_soughtFactor : GM := (yX2_soughtFactor, cX2_soughtFactor, 2, some .int)
theorem kX2_soughtFactor : GCode mX2_soughtFactor 1 := ⟨(W0_in (List.mem_of_getElem? (i := 979) (by decide +kernel)) rfl), (W0_in (List.mem_of_getElem? (i := 82) (by decide +kernel)) rfl), by decide +kernel, by decide +kernel, by decide +kernel⟩
abbrev mX2_summed : GM := (yX2_summed, cX2_summed, 4, some .int)
theorem kX2_summed : GCode mX2_summed 1 := ⟨(W0_in (List.mem_of_getElem? (i := 987) (by decide +kernel)) rfl), (W0_in (List.mem_of_getElem? (i := 82) (by decide +kernel)) rfl), by decide +kernel, by decide +kernel, by decide +kernel⟩
abbrev mX3_init : GM := (yX3_init, cX3_init, 2, none)
theorem kX3_init : GCode mX3_init 1 := ⟨(W0_in (List.mem_of_getElem? (i := 154) (by decide +kernel)) rfl), (W0_in (List.mem_of_getElem? (i := 80) (by decide +kernel)) rfl), by decide +kernel, by decide +kernel, by decide +kernel⟩
abbrev mX3_primeOf : GM := (yX3_primeOf, cX3_primeOf, 1, some .int)
theorem kX3_primeOf : GCode mX3_primeOf 1 := ⟨(W0_in (List.mem_of_getElem? (i := 158) (by decide +kernel)) rfl), (W0_in (List.mem_of_getElem? (i := 80) (by decide +kernel)) rfl), by decide +kernel, by decide +kernel, by decide +kernel⟩
abbrev mX3_prime : GM := (yX3_prime, cX3_prime, 1, some .int)
theorem kX3_prime : GCode mX3_prime 0 := ⟨(W0_in (List.mem_of_getElem? (i := 844) (by decide +kernel)) rfl), (W0_in (List.mem_of_getElem? (i := 80) (by decide +kernel)) rfl), by decide +kernel, by decide +kernel, by decide +kernel⟩
abbrev mX3_rest : GM := (yX3_rest, cX3_rest, 4, some .int)
theorem kX3_rest : GCode mX3_rest 1 := ⟨(W0_in (List.mem_of_getElem? (i := 563) (by decide +kernel)) rfl), (W0_in (List.mem_of_getElem? (i := 80) (by decide +kernel)) rfl), by decide +kernel, by decide +kernel, by decide +kernel⟩
abbrev mX3_product : GM := (yX3_product, cX3_product, 3, some .int)
theorem kX3_product : GCode mX3_product 2 := ⟨(W0_in (List.mem_of_getElem? (i := 787) (by decide +kernel)) rfl), (W0_in (List.mem_of_getElem? (i := 80) (by decide +kernel)) rfl), by decide +kernel, by decide +kernel, by decide +kernel⟩
abbrev mX3_raised : GM := (yX3_raised, cX3_raised, 6, some .int)
theorem kX3_raised : GCode mX3_raised 2 := ⟨(W0_in (List.mem_of_getElem? (i := 783) (by decide +kernel)) rfl), (W0_in (List.mem_of_getElem? (i := 80) (by decide +kernel)) rfl), by decide +kernel, by decide +kernel, by decide +kernel⟩
abbrev mX3_inverse : GM := (yX3_inverse, cX3_inverse, 2, some .int)
theorem kX3_inverse : GCode mX3_inverse 1 := ⟨(W0_in (List.mem_of_getElem? (i := 779) (by decide +kernel)) rfl), (W0_in (List.mem_of_getElem? (i := 80) (by decide +kernel)) rfl), by decide +kernel, by decide +kernel, by decide +kernel⟩
abbrev mX4_init : GM := (yX4_init, cX4_init, 2, none)
theorem kX4_init : GCode mX4_init 1 := ⟨(W0_in (List.mem_of_getElem? (i := 105) (by decide +kernel)) rfl), (W0_in (List.mem_of_getElem? (i := 77) (by decide +kernel)) rfl), by decide +kernel, by decide +kernel, by decide +kernel⟩
abbrev mX4_length : GM := (yX4_length, cX4_length, 1, some .int)
theorem kX4_length : GCode mX4_length 0 := ⟨(W0_in (List.mem_of_getElem? (i := 575) (by decide +kernel)) rfl), (W0_in (List.mem_of_getElem? (i := 77) (by decide +kernel)) rfl), by decide +kernel, by decide +kernel, by decide +kernel⟩
abbrev mX4_get : GM := (yX4_get, cX4_get, 2, some .int)
theorem kX4_get : GCode mX4_get 1 := ⟨(W0_in (List.mem_of_getElem? (i := 559) (by decide +kernel)) rfl), (W0_in (List.mem_of_getElem? (i := 77) (by decide +kernel)) rfl), by decide +kernel, by decide +kernel, by decide +kernel⟩
abbrev mX4_lead : GM := (yX4_lead, cX4_lead, 1, some .int)
theorem kX4_lead : GCode mX4_lead 0 := ⟨(W0_in (List.mem_of_getElem? (i := 775) (by decide +kernel)) rfl), (W0_in (List.mem_of_getElem? (i := 77) (by decide +kernel)) rfl), by decide +kernel, by decide +kernel, by decide +kernel⟩
abbrev mX4_set : GM := (yX4_set, cX4_set, 3, none)
theorem kX4_set : GCode mX4_set 2 := ⟨(W0_in (List.mem_of_getElem? (i := 567) (by decide +kernel)) rfl), (W0_in (List.mem_of_getElem? (i := 77) (by decide +kernel)) rfl), by decide +kernel, by decide +kernel, by decide +kernel⟩
abbrev mX4_wipe : GM := (yX4_wipe, cX4_wipe, 2, none)
theorem kX4_wipe : GCode mX4_wipe 0 := ⟨(W0_in (List.mem_of_getElem? (i := 583) (by decide +kernel)) rfl), (W0_in (List.mem_of_getElem? (i := 77) (by decide +kernel)) rfl), by decide +kernel, by decide +kernel, by decide +kernel⟩
abbrev mX4_copy : GM := (yX4_copy, cX4_copy, 3, none)
theorem kX4_copy : GCode mX4_copy 1 := ⟨(W0_in (List.mem_of_getElem? (i := 594) (by decide +kernel)) rfl), (W0_in (List.mem_of_getElem? (i := 77) (by decide +kernel)) rfl), by decide +kernel, by decide +kernel, by decide +kernel⟩
abbrev mX4_isLike : GM := (yX4_isLike, cX4_isLike, 3, some .boolean)
theorem kX4_isLike : GCode mX4_isLike 1 := ⟨(W0_in (List.mem_of_getElem? (i := 656) (by decide +kernel)) rfl), (W0_in (List.mem_of_getElem? (i := 77) (by decide +kernel)) rfl), by decide +kernel, by decide +kernel, by decide +kernel⟩
abbrev mX5_init : GM := (yX5_init, cX5_init, 1, none)
theorem kX5_init : GCode mX5_init 0 := ⟨(W0_in (List.mem_of_getElem? (i := 291) (by decide +kernel)) rfl), (W0_in (List.mem_of_getElem? (i := 85) (by decide +kernel)) rfl), by decide +kernel, by decide +kernel, by decide +kernel⟩
abbrev mX5_sort : GM := (yX5_sort, cX5_sort, 1, some .int)
theorem kX5_sort : GCode mX5_sort 0 := ⟨(W0_in (List.mem_of_getElem? (i := 1014) (by decide +kernel)) rfl), (W0_in (List.mem_of_getElem? (i := 85) (by decide +kernel)) rfl), by decide +kernel, by decide +kernel, by decide +kernel⟩
abbrev mX5_size : GM := (yX5_size, cX5_size, 1, some .int)
theorem kX5_size : GCode mX5_size 0 := ⟨(W0_in (List.mem_of_getElem? (i := 1018) (by decide +kernel)) rfl), (W0_in (List.mem_of_getElem? (i := 85) (by decide +kernel)) rfl), by decide +kernel, by decide +kernel, by decide +kernel⟩
abbrev mX5_begin : GM := (yX5_begin, cX5_begin, 4, none)
theorem kX5_begin : GCode mX5_begin 2 := ⟨(W0_in (List.mem_of_getElem? (i := 1005) (by decide +kernel)) rfl), (W0_in (List.mem_of_getElem? (i := 85) (by decide +kernel)) rfl), by decide +kernel, by decide +kernel, by decide +kernel⟩
abbrev mX5_read : GM := (yX5_read, cX5_read, 2, some .int)
theorem kX5_read : GCode mX5_read 1 := ⟨(W0_in (List.mem_of_getElem? (i := 1031) (by decide +kernel)) rfl), (W0_in (List.mem_of_getElem? (i := 85) (by decide +kernel)) rfl), by decide +kernel, by decide +kernel, by decide +kernel⟩
abbrev mX5_write : GM := (yX5_write, cX5_write, 3, none)
theorem kX5_write : GCode mX5_write 2 := ⟨(W0_in (List.mem_of_getElem? (i := 1022) (by decide +kernel)) rfl), (W0_in (List.mem_of_getElem? (i := 85) (by decide +kernel)) rfl), by decide +kernel, by decide +kernel, by decide +kernel⟩
abbrev mX6_init : GM := (yX6_init, cX6_init, 1, none)
theorem kX6_init : GCode mX6_init 0 := ⟨(W0_in (List.mem_of_getElem? (i := 124) (by decide +kernel)) rfl), (W0_in (List.mem_of_getElem? (i := 79) (by decide +kernel)) rfl), by decide +kernel, by decide +kernel, by decide +kernel⟩
abbrev mX6_size : GM := (yX6_size, cX6_size, 1, some .int)
theorem kX6_size : GCode mX6_size 0 := ⟨(W0_in (List.mem_of_getElem? (i := 746) (by decide +kernel)) rfl), (W0_in (List.mem_of_getElem? (i := 79) (by decide +kernel)) rfl), by decide +kernel, by decide +kernel, by decide +kernel⟩
abbrev mX6_token : GM := (yX6_token, cX6_token, 2, some .int)
theorem kX6_token : GCode mX6_token 1 := ⟨(W0_in (List.mem_of_getElem? (i := 437) (by decide +kernel)) rfl), (W0_in (List.mem_of_getElem? (i := 79) (by decide +kernel)) rfl), by decide +kernel, by decide +kernel, by decide +kernel⟩
abbrev mX6_start : GM := (yX6_start, cX6_start, 2, some .int)
theorem kX6_start : GCode mX6_start 1 := ⟨(W0_in (List.mem_of_getElem? (i := 445) (by decide +kernel)) rfl), (W0_in (List.mem_of_getElem? (i := 79) (by decide +kernel)) rfl), by decide +kernel, by decide +kernel, by decide +kernel⟩
abbrev mX6_wipe : GM := (yX6_wipe, cX6_wipe, 1, none)
theorem kX6_wipe : GCode mX6_wipe 0 := ⟨(W0_in (List.mem_of_getElem? (i := 501) (by decide +kernel)) rfl), (W0_in (List.mem_of_getElem? (i := 79) (by decide +kernel)) rfl), by decide +kernel, by decide +kernel, by decide +kernel⟩
abbrev mX6_append : GM := (yX6_append, cX6_append, 5, none)
theorem kX6_append : GCode mX6_append 2 := ⟨(W0_in (List.mem_of_getElem? (i := 750) (by decide +kernel)) rfl), (W0_in (List.mem_of_getElem? (i := 79) (by decide +kernel)) rfl), by decide +kernel, by decide +kernel, by decide +kernel⟩
abbrev mX6_write : GM := (yX6_write, cX6_write, 3, none)
theorem kX6_write : GCode mX6_write 1 := ⟨(W0_in (List.mem_of_getElem? (i := 308) (by decide +kernel)) rfl), (W0_in (List.mem_of_getElem? (i := 79) (by decide +kernel)) rfl), by decide +kernel, by decide +kernel, by decide +kernel⟩
abbrev mX6_add : GM := (yX6_add, cX6_add, 2, none)
theorem kX6_add : GCode mX6_add 1 := ⟨(W0_in (List.mem_of_getElem? (i := 360) (by decide +kernel)) rfl), (W0_in (List.mem_of_getElem? (i := 79) (by decide +kernel)) rfl), by decide +kernel, by decide +kernel, by decide +kernel⟩
abbrev mX6_byteAt : GM := (yX6_byteAt, cX6_byteAt, 2, some .int)
theorem kX6_byteAt : GCode mX6_byteAt 1 := ⟨(W0_in (List.mem_of_getElem? (i := 372) (by decide +kernel)) rfl), (W0_in (List.mem_of_getElem? (i := 79) (by decide +kernel)) rfl), by decide +kernel, by decide +kernel, by decide +kernel⟩
abbrev mX6_cutUp : GM := (yX6_cutUp, cX6_cutUp, 1, none)
theorem kX6_cutUp : GCode mX6_cutUp 0 := ⟨(W0_in (List.mem_of_getElem? (i := 364) (by decide +kernel)) rfl), (W0_in (List.mem_of_getElem? (i := 79) (by decide +kernel)) rfl), by decide +kernel, by decide +kernel, by decide +kernel⟩
abbrev mX6_skipBlanks : GM := (yX6_skipBlanks, cX6_skipBlanks, 1, none)
theorem kX6_skipBlanks : GCode mX6_skipBlanks 0 := ⟨(W0_in (List.mem_of_getElem? (i := 368) (by decide +kernel)) rfl), (W0_in (List.mem_of_getElem? (i := 79) (by decide +kernel)) rfl), by decide +kernel, by decide +kernel, by decide +kernel⟩
abbrev mX6_readToken : GM := (yX6_readToken, cX6_readToken, 2, some .int)
theorem kX6_readToken : GCode mX6_readToken 0 := ⟨(W0_in (List.mem_of_getElem? (i := 376) (by decide +kernel)) rfl), (W0_in (List.mem_of_getElem? (i := 79) (by decide +kernel)) rfl), by decide +kernel, by decide +kernel, by decide +kernel⟩
abbrev mX6_isLetter : GM := (yX6_isLetter, cX6_isLetter, 1, some .boolean)
theorem kX6_isLetter : GCode mX6_isLetter 1 := ⟨(W0_in (List.mem_of_getElem? (i := 379) (by decide +kernel)) rfl), (W0_in (List.mem_of_getElem? (i := 79) (by decide +kernel)) rfl), by decide +kernel, by decide +kernel, by decide +kernel⟩
abbrev mX6_isDigit : GM := (yX6_isDigit, cX6_isDigit, 1, some .boolean)
theorem kX6_isDigit : GCode mX6_isDigit 1 := ⟨(W0_in (List.mem_of_getElem? (i := 406) (by decide +kernel)) rfl), (W0_in (List.mem_of_getElem? (i := 79) (by decide +kernel)) rfl), by decide +kernel, by decide +kernel, by decide +kernel⟩
abbrev mX6_isSign : GM := (yX6_isSign, cX6_isSign, 1, some .boolean)
theorem kX6_isSign : GCode mX6_isSign 1 := ⟨(W0_in (List.mem_of_getElem? (i := 413) (by decide +kernel)) rfl), (W0_in (List.mem_of_getElem? (i := 79) (by decide +kernel)) rfl), by decide +kernel, by decide +kernel, by decide +kernel⟩
abbrev mX6_readNumber : GM := (yX6_readNumber, cX6_readNumber, 3, some .int)
theorem kX6_readNumber : GCode mX6_readNumber 0 := ⟨(W0_in (List.mem_of_getElem? (i := 410) (by decide +kernel)) rfl), (W0_in (List.mem_of_getElem? (i := 79) (by decide +kernel)) rfl), by decide +kernel, by decide +kernel, by decide +kernel⟩
abbrev mX6_readWord : GM := (yX6_readWord, cX6_readWord, 2, some .int)
theorem kX6_readWord : GCode mX6_readWord 0 := ⟨(W0_in (List.mem_of_getElem? (i := 383) (by decide +kernel)) rfl), (W0_in (List.mem_of_getElem? (i := 79) (by decide +kernel)) rfl), by decide +kernel, by decide +kernel, by decide +kernel⟩
abbrev mX6_keyOrName : GM := (yX6_keyOrName, cX6_keyOrName, 2, some .int)
theorem kX6_keyOrName : GCode mX6_keyOrName 1 := ⟨(W0_in (List.mem_of_getElem? (i := 387) (by decide +kernel)) rfl), (W0_in (List.mem_of_getElem? (i := 79) (by decide +kernel)) rfl), by decide +kernel, by decide +kernel, by decide +kernel⟩
abbrev mX6_spells : GM := (yX6_spells, cX6_spells, 4, some .boolean)
theorem kX6_spells : GCode mX6_spells 2 := ⟨(W0_in (List.mem_of_getElem? (i := 392) (by decide +kernel)) rfl), (W0_in (List.mem_of_getElem? (i := 79) (by decide +kernel)) rfl), by decide +kernel, by decide +kernel, by decide +kernel⟩
abbrev mX7_init : GM := (yX7_init, cX7_init, 1, none)
theorem kX7_init : GCode mX7_init 0 := ⟨(W0_in (List.mem_of_getElem? (i := 251) (by decide +kernel)) rfl), (W0_in (List.mem_of_getElem? (i := 84) (by decide +kernel)) rfl), by decide +kernel, by decide +kernel, by decide +kernel⟩
abbrev mX7_begin : GM := (yX7_begin, cX7_begin, 1, none)
theorem kX7_begin : GCode mX7_begin 0 := ⟨(W0_in (List.mem_of_getElem? (i := 421) (by decide +kernel)) rfl), (W0_in (List.mem_of_getElem? (i := 84) (by decide +kernel)) rfl), by decide +kernel, by decide +kernel, by decide +kernel⟩
abbrev mX7_add : GM := (yX7_add, cX7_add, 2, none)
theorem kX7_add : GCode mX7_add 1 := ⟨(W0_in (List.mem_of_getElem? (i := 465) (by decide +kernel)) rfl), (W0_in (List.mem_of_getElem? (i := 84) (by decide +kernel)) rfl), by decide +kernel, by decide +kernel, by decide +kernel⟩
abbrev mX7_addName : GM := (yX7_addName, cX7_addName, 2, none)
theorem kX7_addName : GCode mX7_addName 1 := ⟨(W0_in (List.mem_of_getElem? (i := 488) (by decide +kernel)) rfl), (W0_in (List.mem_of_getElem? (i := 84) (by decide +kernel)) rfl), by decide +kernel, by decide +kernel, by decide +kernel⟩
abbrev mX7_endPart : GM := (yX7_endPart, cX7_endPart, 1, none)
theorem kX7_endPart : GCode mX7_endPart 0 := ⟨(W0_in (List.mem_of_getElem? (i := 497) (by decide +kernel)) rfl), (W0_in (List.mem_of_getElem? (i := 84) (by decide +kernel)) rfl), by decide +kernel, by decide +kernel, by decide +kernel⟩
abbrev mX7_worth : GM := (yX7_worth, cX7_worth, 5, some .int)
theorem kX7_worth : GCode mX7_worth 2 := ⟨(W0_in (List.mem_of_getElem? (i := 717) (by decide +kernel)) rfl), (W0_in (List.mem_of_getElem? (i := 84) (by decide +kernel)) rfl), by decide +kernel, by decide +kernel, by decide +kernel⟩
abbrev mX7_push : GM := (yX7_push, cX7_push, 2, none)
theorem kX7_push : GCode mX7_push 1 := ⟨(W0_in (List.mem_of_getElem? (i := 727) (by decide +kernel)) rfl), (W0_in (List.mem_of_getElem? (i := 84) (by decide +kernel)) rfl), by decide +kernel, by decide +kernel, by decide +kernel⟩
abbrev mX7_pop : GM := (yX7_pop, cX7_pop, 1, some .int)
theorem kX7_pop : GCode mX7_pop 0 := ⟨(W0_in (List.mem_of_getElem? (i := 731) (by decide +kernel)) rfl), (W0_in (List.mem_of_getElem? (i := 84) (by decide +kernel)) rfl), by decide +kernel, by decide +kernel, by decide +kernel⟩
abbrev mX7_doStep : GM := (yX7_doStep, cX7_doStep, 5, none)
theorem kX7_doStep : GCode mX7_doStep 2 := ⟨(W0_in (List.mem_of_getElem? (i := 723) (by decide +kernel)) rfl), (W0_in (List.mem_of_getElem? (i := 84) (by decide +kernel)) rfl), by decide +kernel, by decide +kernel, by decide +kernel⟩
abbrev mX7_ofTwo : GM := (yX7_ofTwo, cX7_ofTwo, 3, some .int)
theorem kX7_ofTwo : GCode mX7_ofTwo 3 := ⟨(W0_in (List.mem_of_getElem? (i := 734) (by decide +kernel)) rfl), (W0_in (List.mem_of_getElem? (i := 84) (by decide +kernel)) rfl), by decide +kernel, by decide +kernel, by decide +kernel⟩
abbrev mX8_init : GM := (yX8_init, cX8_init, 4, none)
theorem kX8_init : GCode mX8_init 2 := ⟨(W0_in (List.mem_of_getElem? (i := 616) (by decide +kernel)) rfl), (W0_in (List.mem_of_getElem? (i := 91) (by decide +kernel)) rfl), by decide +kernel, by decide +kernel, by decide +kernel⟩
abbrev mX8_kind : GM := (yX8_kind, cX8_kind, 1, some .int)
theorem kX8_kind : GCode mX8_kind 0 := ⟨(W0_in (List.mem_of_getElem? (i := 702) (by decide +kernel)) rfl), (W0_in (List.mem_of_getElem? (i := 91) (by decide +kernel)) rfl), by decide +kernel, by decide +kernel, by decide +kernel⟩
abbrev mX8_cut : GM := (yX8_cut, cX8_cut, 1, some .int)
theorem kX8_cut : GCode mX8_cut 0 := ⟨(W0_in (List.mem_of_getElem? (i := 698) (by decide +kernel)) rfl), (W0_in (List.mem_of_getElem? (i := 91) (by decide +kernel)) rfl), by decide +kernel, by decide +kernel, by decide +kernel⟩
abbrev mX8_above : GM := (yX8_above, cX8_above, 1, some .int)
theorem kX8_above : GCode mX8_above 1 := ⟨(W0_in (List.mem_of_getElem? (i := 713) (by decide +kernel)) rfl), (W0_in (List.mem_of_getElem? (i := 91) (by decide +kernel)) rfl), by decide +kernel, by decide +kernel, by decide +kernel⟩
abbrev mX8_isUnder : GM := (yX8_isUnder, cX8_isUnder, 4, some .boolean)
theorem kX8_isUnder : GCode mX8_isUnder 1 := ⟨(W0_in (List.mem_of_getElem? (i := 710) (by decide +kernel)) rfl), (W0_in (List.mem_of_getElem? (i := 91) (by decide +kernel)) rfl), by decide +kernel, by decide +kernel, by decide +kernel⟩
abbrev mX8_part : GM := (yX8_part, cX8_part, 1, some .int)
theorem kX8_part : GCode mX8_part 0 := ⟨(W0_in (List.mem_of_getElem? (i := 706) (by decide +kernel)) rfl), (W0_in (List.mem_of_getElem? (i := 91) (by decide +kernel)) rfl), by decide +kernel, by decide +kernel, by decide +kernel⟩
abbrev mX8_countOf : GM := (yX8_countOf, cX8_countOf, 4, some .int)
theorem kX8_countOf : GCode mX8_countOf 3 := ⟨(W0_in (List.mem_of_getElem? (i := 661) (by decide +kernel)) rfl), (W0_in (List.mem_of_getElem? (i := 91) (by decide +kernel)) rfl), by decide +kernel, by decide +kernel, by decide +kernel⟩
abbrev mX8_countOfSize : GM := (yX8_countOfSize, cX8_countOfSize, 2, some .int)
theorem kX8_countOfSize : GCode mX8_countOfSize 1 := ⟨(W0_in (List.mem_of_getElem? (i := 625) (by decide +kernel)) rfl), (W0_in (List.mem_of_getElem? (i := 91) (by decide +kernel)) rfl), by decide +kernel, by decide +kernel, by decide +kernel⟩
abbrev mX8_parted : GM := (yX8_parted, cX8_parted, 5, some .int)
theorem kX8_parted : GCode mX8_parted 1 := ⟨(W0_in (List.mem_of_getElem? (i := 621) (by decide +kernel)) rfl), (W0_in (List.mem_of_getElem? (i := 91) (by decide +kernel)) rfl), by decide +kernel, by decide +kernel, by decide +kernel⟩
abbrev mX8_turned : GM := (yX8_turned, cX8_turned, 4, some .int)
theorem kX8_turned : GCode mX8_turned 2 := ⟨(W0_in (List.mem_of_getElem? (i := 664) (by decide +kernel)) rfl), (W0_in (List.mem_of_getElem? (i := 91) (by decide +kernel)) rfl), by decide +kernel, by decide +kernel, by decide +kernel⟩
abbrev mX9_init : GM := (yX9_init, cX9_init, 3, none)
theorem kX9_init : GCode mX9_init 1 := ⟨(W0_in (List.mem_of_getElem? (i := 96) (by decide +kernel)) rfl), (W0_in (List.mem_of_getElem? (i := 76) (by decide +kernel)) rfl), by decide +kernel, by decide +kernel, by decide +kernel⟩
abbrev mX9_put : GM := (yX9_put, cX9_put, 5, some .int)
theorem kX9_put : GCode mX9_put 3 := ⟨(W0_in (List.mem_of_getElem? (i := 551) (by decide +kernel)) rfl), (W0_in (List.mem_of_getElem? (i := 76) (by decide +kernel)) rfl), by decide +kernel, by decide +kernel, by decide +kernel⟩
abbrev mX9_at : GM := (yX9_at, cX9_at, 3, some .int)
theorem kX9_at : GCode mX9_at 2 := ⟨(W0_in (List.mem_of_getElem? (i := 571) (by decide +kernel)) rfl), (W0_in (List.mem_of_getElem? (i := 76) (by decide +kernel)) rfl), by decide +kernel, by decide +kernel, by decide +kernel⟩
abbrev mX9_clear : GM := (yX9_clear, cX9_clear, 3, some .int)
theorem kX9_clear : GCode mX9_clear 1 := ⟨(W0_in (List.mem_of_getElem? (i := 579) (by decide +kernel)) rfl), (W0_in (List.mem_of_getElem? (i := 76) (by decide +kernel)) rfl), by decide +kernel, by decide +kernel, by decide +kernel⟩
abbrev mX9_sum : GM := (yX9_sum, cX9_sum, 5, some .int)
theorem kX9_sum : GCode mX9_sum 4 := ⟨(W0_in (List.mem_of_getElem? (i := 587) (by decide +kernel)) rfl), (W0_in (List.mem_of_getElem? (i := 76) (by decide +kernel)) rfl), by decide +kernel, by decide +kernel, by decide +kernel⟩
abbrev mX9_way : GM := (yX9_way, cX9_way, 3, some .int)
theorem kX9_way : GCode mX9_way 2 := ⟨(W0_in (List.mem_of_getElem? (i := 612) (by decide +kernel)) rfl), (W0_in (List.mem_of_getElem? (i := 76) (by decide +kernel)) rfl), by decide +kernel, by decide +kernel, by decide +kernel⟩
abbrev mX9_times : GM := (yX9_times, cX9_times, 5, some .int)
theorem kX9_times : GCode mX9_times 4 := ⟨(W0_in (List.mem_of_getElem? (i := 640) (by decide +kernel)) rfl), (W0_in (List.mem_of_getElem? (i := 76) (by decide +kernel)) rfl), by decide +kernel, by decide +kernel, by decide +kernel⟩
abbrev mX9_cost : GM := (yX9_cost, cX9_cost, 4, some .int)
theorem kX9_cost : GCode mX9_cost 3 := ⟨(W0_in (List.mem_of_getElem? (i := 681) (by decide +kernel)) rfl), (W0_in (List.mem_of_getElem? (i := 76) (by decide +kernel)) rfl), by decide +kernel, by decide +kernel, by decide +kernel⟩
abbrev mX9_plan : GM := (yX9_plan, cX9_plan, 3, some .int)
theorem kX9_plan : GCode mX9_plan 2 := ⟨(W0_in (List.mem_of_getElem? (i := 685) (by decide +kernel)) rfl), (W0_in (List.mem_of_getElem? (i := 76) (by decide +kernel)) rfl), by decide +kernel, by decide +kernel, by decide +kernel⟩
abbrev mX9_planned : GM := (yX9_planned, cX9_planned, 5, some .int)
theorem kX9_planned : GCode mX9_planned 3 := ⟨(W0_in (List.mem_of_getElem? (i := 738) (by decide +kernel)) rfl), (W0_in (List.mem_of_getElem? (i := 76) (by decide +kernel)) rfl), by decide +kernel, by decide +kernel, by decide +kernel⟩
abbrev mX9_feed : GM := (yX9_feed, cX9_feed, 4, some .int)
theorem kX9_feed : GCode mX9_feed 2 := ⟨(W0_in (List.mem_of_getElem? (i := 742) (by decide +kernel)) rfl), (W0_in (List.mem_of_getElem? (i := 76) (by decide +kernel)) rfl), by decide +kernel, by decide +kernel, by decide +kernel⟩
abbrev mX9_text : GM := (yX9_text, cX9_text, 2, some .int)
theorem kX9_text : GCode mX9_text 0 := ⟨(W0_in (List.mem_of_getElem? (i := 754) (by decide +kernel)) rfl), (W0_in (List.mem_of_getElem? (i := 76) (by decide +kernel)) rfl), by decide +kernel, by decide +kernel, by decide +kernel⟩
abbrev mX9_force : GM := (yX9_force, cX9_force, 3, some .int)
theorem kX9_force : GCode mX9_force 1 := ⟨(W0_in (List.mem_of_getElem? (i := 758) (by decide +kernel)) rfl), (W0_in (List.mem_of_getElem? (i := 76) (by decide +kernel)) rfl), by decide +kernel, by decide +kernel, by decide +kernel⟩
abbrev mX9_says : GM := (yX9_says, cX9_says, 4, some .long)
theorem kX9_says : GCode mX9_says 3 := ⟨(W0_in (List.mem_of_getElem? (i := 762) (by decide +kernel)) rfl), (W0_in (List.mem_of_getElem? (i := 76) (by decide +kernel)) rfl), by decide +kernel, by decide +kernel, by decide +kernel⟩
abbrev mX9_divide : GM := (yX9_divide, cX9_divide, 6, some .int)
theorem kX9_divide : GCode mX9_divide 4 := ⟨(W0_in (List.mem_of_getElem? (i := 767) (by decide +kernel)) rfl), (W0_in (List.mem_of_getElem? (i := 76) (by decide +kernel)) rfl), by decide +kernel, by decide +kernel, by decide +kernel⟩
abbrev mX9_gcd : GM := (yX9_gcd, cX9_gcd, 4, some .int)
theorem kX9_gcd : GCode mX9_gcd 3 := ⟨(W0_in (List.mem_of_getElem? (i := 793) (by decide +kernel)) rfl), (W0_in (List.mem_of_getElem? (i := 76) (by decide +kernel)) rfl), by decide +kernel, by decide +kernel, by decide +kernel⟩
abbrev mX9_cofactor : GM := (yX9_cofactor, cX9_cofactor, 4, some .int)
theorem kX9_cofactor : GCode mX9_cofactor 3 := ⟨(W0_in (List.mem_of_getElem? (i := 808) (by decide +kernel)) rfl), (W0_in (List.mem_of_getElem? (i := 76) (by decide +kernel)) rfl), by decide +kernel, by decide +kernel, by decide +kernel⟩
abbrev mX9_compose : GM := (yX9_compose, cX9_compose, 6, some .int)
theorem kX9_compose : GCode mX9_compose 3 := ⟨(W0_in (List.mem_of_getElem? (i := 816) (by decide +kernel)) rfl), (W0_in (List.mem_of_getElem? (i := 76) (by decide +kernel)) rfl), by decide +kernel, by decide +kernel, by decide +kernel⟩
abbrev mX9_move : GM := (yX9_move, cX9_move, 4, some .int)
theorem kX9_move : GCode mX9_move 3 := ⟨(W0_in (List.mem_of_getElem? (i := 824) (by decide +kernel)) rfl), (W0_in (List.mem_of_getElem? (i := 76) (by decide +kernel)) rfl), by decide +kernel, by decide +kernel, by decide +kernel⟩
abbrev mX9_root : GM := (yX9_root, cX9_root, 4, some .int)
theorem kX9_root : GCode mX9_root 2 := ⟨(W0_in (List.mem_of_getElem? (i := 836) (by decide +kernel)) rfl), (W0_in (List.mem_of_getElem? (i := 76) (by decide +kernel)) rfl), by decide +kernel, by decide +kernel, by decide +kernel⟩
abbrev mX9_order : GM := (yX9_order, cX9_order, 5, some .int)
theorem kX9_order : GCode mX9_order 2 := ⟨(W0_in (List.mem_of_getElem? (i := 860) (by decide +kernel)) rfl), (W0_in (List.mem_of_getElem? (i := 76) (by decide +kernel)) rfl), by decide +kernel, by decide +kernel, by decide +kernel⟩
abbrev mX9_place : GM := (yX9_place, cX9_place, 2, some .int)
theorem kX9_place : GCode mX9_place 1 := ⟨(W0_in (List.mem_of_getElem? (i := 864) (by decide +kernel)) rfl), (W0_in (List.mem_of_getElem? (i := 76) (by decide +kernel)) rfl), by decide +kernel, by decide +kernel, by decide +kernel⟩
abbrev mX9_leave : GM := (yX9_leave, cX9_leave, 2, some .int)
theorem kX9_leave : GCode mX9_leave 0 := ⟨(W0_in (List.mem_of_getElem? (i := 876) (by decide +kernel)) rfl), (W0_in (List.mem_of_getElem? (i := 76) (by decide +kernel)) rfl), by decide +kernel, by decide +kernel, by decide +kernel⟩
abbrev mX9_see : GM := (yX9_see, cX9_see, 4, some .int)
theorem kX9_see : GCode mX9_see 2 := ⟨(W0_in (List.mem_of_getElem? (i := 884) (by decide +kernel)) rfl), (W0_in (List.mem_of_getElem? (i := 76) (by decide +kernel)) rfl), by decide +kernel, by decide +kernel, by decide +kernel⟩
abbrev mX9_told : GM := (yX9_told, cX9_told, 3, some .int)
theorem kX9_told : GCode mX9_told 2 := ⟨(W0_in (List.mem_of_getElem? (i := 901) (by decide +kernel)) rfl), (W0_in (List.mem_of_getElem? (i := 76) (by decide +kernel)) rfl), by decide +kernel, by decide +kernel, by decide +kernel⟩
abbrev mX9_value : GM := (yX9_value, cX9_value, 3, some .int)
theorem kX9_value : GCode mX9_value 2 := ⟨(W0_in (List.mem_of_getElem? (i := 909) (by decide +kernel)) rfl), (W0_in (List.mem_of_getElem? (i := 76) (by decide +kernel)) rfl), by decide +kernel, by decide +kernel, by decide +kernel⟩
abbrev mX9_look : GM := (yX9_look, cX9_look, 3, some .int)
theorem kX9_look : GCode mX9_look 1 := ⟨(W0_in (List.mem_of_getElem? (i := 914) (by decide +kernel)) rfl), (W0_in (List.mem_of_getElem? (i := 76) (by decide +kernel)) rfl), by decide +kernel, by decide +kernel, by decide +kernel⟩
abbrev mX9_fill : GM := (yX9_fill, cX9_fill, 2, some .int)
theorem kX9_fill : GCode mX9_fill 1 := ⟨(W0_in (List.mem_of_getElem? (i := 918) (by decide +kernel)) rfl), (W0_in (List.mem_of_getElem? (i := 76) (by decide +kernel)) rfl), by decide +kernel, by decide +kernel, by decide +kernel⟩
abbrev mX9_right : GM := (yX9_right, cX9_right, 5, some .int)
theorem kX9_right : GCode mX9_right 2 := ⟨(W0_in (List.mem_of_getElem? (i := 943) (by decide +kernel)) rfl), (W0_in (List.mem_of_getElem? (i := 76) (by decide +kernel)) rfl), by decide +kernel, by decide +kernel, by decide +kernel⟩
abbrev mX9_relation : GM := (yX9_relation, cX9_relation, 3, some .int)
theorem kX9_relation : GCode mX9_relation 1 := ⟨(W0_in (List.mem_of_getElem? (i := 966) (by decide +kernel)) rfl), (W0_in (List.mem_of_getElem? (i := 76) (by decide +kernel)) rfl), by decide +kernel, by decide +kernel, by decide +kernel⟩
abbrev mX9_power : GM := (yX9_power, cX9_power, 2, some .int)
theorem kX9_power : GCode mX9_power 1 := ⟨(W0_in (List.mem_of_getElem? (i := 983) (by decide +kernel)) rfl), (W0_in (List.mem_of_getElem? (i := 76) (by decide +kernel)) rfl), by decide +kernel, by decide +kernel, by decide +kernel⟩
abbrev mX9_count : GM := (yX9_count, cX9_count, 2, some .int)
theorem kX9_count : GCode mX9_count 1 := ⟨(W0_in (List.mem_of_getElem? (i := 992) (by decide +kernel)) rfl), (W0_in (List.mem_of_getElem? (i := 76) (by decide +kernel)) rfl), by decide +kernel, by decide +kernel, by decide +kernel⟩
abbrev mX9_counted : GM := (yX9_counted, cX9_counted, 1, some .long)
theorem kX9_counted : GCode mX9_counted 0 := ⟨(W0_in (List.mem_of_getElem? (i := 997) (by decide +kernel)) rfl), (W0_in (List.mem_of_getElem? (i := 76) (by decide +kernel)) rfl), by decide +kernel, by decide +kernel, by decide +kernel⟩
abbrev mX9_sheet : GM := (yX9_sheet, cX9_sheet, 4, some .int)
theorem kX9_sheet : GCode mX9_sheet 3 := ⟨(W0_in (List.mem_of_getElem? (i := 1001) (by decide +kernel)) rfl), (W0_in (List.mem_of_getElem? (i := 76) (by decide +kernel)) rfl), by decide +kernel, by decide +kernel, by decide +kernel⟩
abbrev mX9_cell : GM := (yX9_cell, cX9_cell, 4, some .int)
theorem kX9_cell : GCode mX9_cell 3 := ⟨(W0_in (List.mem_of_getElem? (i := 1010) (by decide +kernel)) rfl), (W0_in (List.mem_of_getElem? (i := 76) (by decide +kernel)) rfl), by decide +kernel, by decide +kernel, by decide +kernel⟩
abbrev mX9_lay : GM := (yX9_lay, cX9_lay, 8, some .int)
theorem kX9_lay : GCode mX9_lay 5 := ⟨(W0_in (List.mem_of_getElem? (i := 1027) (by decide +kernel)) rfl), (W0_in (List.mem_of_getElem? (i := 76) (by decide +kernel)) rfl), by decide +kernel, by decide +kernel, by decide +kernel⟩
abbrev mX9_taken : GM := (yX9_taken, cX9_taken, 3, some .int)
theorem kX9_taken : GCode mX9_taken 2 := ⟨(W0_in (List.mem_of_getElem? (i := 1035) (by decide +kernel)) rfl), (W0_in (List.mem_of_getElem? (i := 76) (by decide +kernel)) rfl), by decide +kernel, by decide +kernel, by decide +kernel⟩
abbrev mX9_isWithin : GM := (yX9_isWithin, cX9_isWithin, 2, some .boolean)
theorem kX9_isWithin : GCode mX9_isWithin 2 := ⟨(W0_in (List.mem_of_getElem? (i := 484) (by decide +kernel)) rfl), (W0_in (List.mem_of_getElem? (i := 76) (by decide +kernel)) rfl), by decide +kernel, by decide +kernel, by decide +kernel⟩
abbrev mX9_isPoly : GM := (yX9_isPoly, cX9_isPoly, 1, some .boolean)
theorem kX9_isPoly : GCode mX9_isPoly 1 := ⟨(W0_in (List.mem_of_getElem? (i := 554) (by decide +kernel)) rfl), (W0_in (List.mem_of_getElem? (i := 76) (by decide +kernel)) rfl), by decide +kernel, by decide +kernel, by decide +kernel⟩
abbrev mX9_arePolys : GM := (yX9_arePolys, cX9_arePolys, 3, some .boolean)
theorem kX9_arePolys : GCode mX9_arePolys 3 := ⟨(W0_in (List.mem_of_getElem? (i := 590) (by decide +kernel)) rfl), (W0_in (List.mem_of_getElem? (i := 76) (by decide +kernel)) rfl), by decide +kernel, by decide +kernel, by decide +kernel⟩
abbrev mX9_isWay : GM := (yX9_isWay, cX9_isWay, 2, some .boolean)
theorem kX9_isWay : GCode mX9_isWay 1 := ⟨(W0_in (List.mem_of_getElem? (i := 644) (by decide +kernel)) rfl), (W0_in (List.mem_of_getElem? (i := 76) (by decide +kernel)) rfl), by decide +kernel, by decide +kernel, by decide +kernel⟩
abbrev mX9_isPlace : GM := (yX9_isPlace, cX9_isPlace, 2, some .boolean)
theorem kX9_isPlace : GCode mX9_isPlace 1 := ⟨(W0_in (List.mem_of_getElem? (i := 888) (by decide +kernel)) rfl), (W0_in (List.mem_of_getElem? (i := 76) (by decide +kernel)) rfl), by decide +kernel, by decide +kernel, by decide +kernel⟩
abbrev mX9_become : GM := (yX9_become, cX9_become, 3, some .int)
theorem kX9_become : GCode mX9_become 2 := ⟨(W0_in (List.mem_of_getElem? (i := 608) (by decide +kernel)) rfl), (W0_in (List.mem_of_getElem? (i := 76) (by decide +kernel)) rfl), by decide +kernel, by decide +kernel, by decide +kernel⟩
abbrev mX9_countFor : GM := (yX9_countFor, cX9_countFor, 4, some .int)
theorem kX9_countFor : GCode mX9_countFor 3 := ⟨(W0_in (List.mem_of_getElem? (i := 652) (by decide +kernel)) rfl), (W0_in (List.mem_of_getElem? (i := 76) (by decide +kernel)) rfl), by decide +kernel, by decide +kernel, by decide +kernel⟩
abbrev mX9_multiply : GM := (yX9_multiply, cX9_multiply, 6, some .int)
theorem kX9_multiply : GCode mX9_multiply 4 := ⟨(W0_in (List.mem_of_getElem? (i := 648) (by decide +kernel)) rfl), (W0_in (List.mem_of_getElem? (i := 76) (by decide +kernel)) rfl), by decide +kernel, by decide +kernel, by decide +kernel⟩
abbrev mX9_ruleFor : GM := (yX9_ruleFor, cX9_ruleFor, 6, some .int)
theorem kX9_ruleFor : GCode mX9_ruleFor 3 := ⟨(W0_in (List.mem_of_getElem? (i := 693) (by decide +kernel)) rfl), (W0_in (List.mem_of_getElem? (i := 76) (by decide +kernel)) rfl), by decide +kernel, by decide +kernel, by decide +kernel⟩
abbrev mX9_bestWay : GM := (yX9_bestWay, cX9_bestWay, 7, some .int)
theorem kX9_bestWay : GCode mX9_bestWay 2 := ⟨(W0_in (List.mem_of_getElem? (i := 689) (by decide +kernel)) rfl), (W0_in (List.mem_of_getElem? (i := 76) (by decide +kernel)) rfl), by decide +kernel, by decide +kernel, by decide +kernel⟩
abbrev mX10_in : GM := (yX10_in, cX10_in, 3, some .boolean)
theorem kX10_in : GCode mX10_in 3 := ⟨(W0_in (List.mem_of_getElem? (i := 1180) (by decide +kernel)) rfl), (W0_in (List.mem_of_getElem? (i := 90) (by decide +kernel)) rfl), by decide +kernel, by decide +kernel, by decide +kernel⟩
abbrev mX10_init : GM := (yX10_init, cX10_init, 15, none)
theorem kX10_init : GCode mX10_init 1 := ⟨(W0_in (List.mem_of_getElem? (i := 1044) (by decide +kernel)) rfl), (W0_in (List.mem_of_getElem? (i := 90) (by decide +kernel)) rfl), by decide +kernel, by decide +kernel, by decide +kernel⟩
abbrev mX10_rest : GM := (yX10_rest, cX10_rest, 2, some .int)
theorem kX10_rest : GCode mX10_rest 1 := ⟨(W0_in (List.mem_of_getElem? (i := 1184) (by decide +kernel)) rfl), (W0_in (List.mem_of_getElem? (i := 90) (by decide +kernel)) rfl), by decide +kernel, by decide +kernel, by decide +kernel⟩
abbrev mX10_raised : GM := (yX10_raised, cX10_raised, 6, some .int)
theorem kX10_raised : GCode mX10_raised 2 := ⟨(W0_in (List.mem_of_getElem? (i := 1376) (by decide +kernel)) rfl), (W0_in (List.mem_of_getElem? (i := 90) (by decide +kernel)) rfl), by decide +kernel, by decide +kernel, by decide +kernel⟩
abbrev mX10_inverse : GM := (yX10_inverse, cX10_inverse, 2, some .int)
theorem kX10_inverse : GCode mX10_inverse 1 := ⟨(W0_in (List.mem_of_getElem? (i := 1372) (by decide +kernel)) rfl), (W0_in (List.mem_of_getElem? (i := 90) (by decide +kernel)) rfl), by decide +kernel, by decide +kernel, by decide +kernel⟩
abbrev mX10_length : GM := (yX10_length, cX10_length, 3, some .int)
theorem kX10_length : GCode mX10_length 1 := ⟨(W0_in (List.mem_of_getElem? (i := 1192) (by decide +kernel)) rfl), (W0_in (List.mem_of_getElem? (i := 90) (by decide +kernel)) rfl), by decide +kernel, by decide +kernel, by decide +kernel⟩
abbrev mX10_empty : GM := (yX10_empty, cX10_empty, 3, none)
theorem kX10_empty : GCode mX10_empty 1 := ⟨(W0_in (List.mem_of_getElem? (i := 1200) (by decide +kernel)) rfl), (W0_in (List.mem_of_getElem? (i := 90) (by decide +kernel)) rfl), by decide +kernel, by decide +kernel, by decide +kernel⟩
abbrev mX10_copy : GM := (yX10_copy, cX10_copy, 4, none)
theorem kX10_copy : GCode mX10_copy 2 := ⟨(W0_in (List.mem_of_getElem? (i := 1212) (by decide +kernel)) rfl), (W0_in (List.mem_of_getElem? (i := 90) (by decide +kernel)) rfl), by decide +kernel, by decide +kernel, by decide +kernel⟩
abbrev mX10_isPoly : GM := (yX10_isPoly, cX10_isPoly, 1, some .boolean)
theorem kX10_isPoly : GCode mX10_isPoly 1 := ⟨(W0_in (List.mem_of_getElem? (i := 1177) (by decide +kernel)) rfl), (W0_in (List.mem_of_getElem? (i := 90) (by decide +kernel)) rfl), by decide +kernel, by decide +kernel, by decide +kernel⟩
abbrev mX10_comes : GM := (yX10_comes, cX10_comes, 3, some .int)
theorem kX10_comes : GCode mX10_comes 2 := ⟨(W0_in (List.mem_of_getElem? (i := 1208) (by decide +kernel)) rfl), (W0_in (List.mem_of_getElem? (i := 90) (by decide +kernel)) rfl), by decide +kernel, by decide +kernel, by decide +kernel⟩
abbrev mX10_put : GM := (yX10_put, cX10_put, 5, some .int)
theorem kX10_put : GCode mX10_put 3 := ⟨(W0_in (List.mem_of_getElem? (i := 1174) (by decide +kernel)) rfl), (W0_in (List.mem_of_getElem? (i := 90) (by decide +kernel)) rfl), by decide +kernel, by decide +kernel, by decide +kernel⟩
abbrev mX10_at : GM := (yX10_at, cX10_at, 3, some .int)
theorem kX10_at : GCode mX10_at 2 := ⟨(W0_in (List.mem_of_getElem? (i := 1188) (by decide +kernel)) rfl), (W0_in (List.mem_of_getElem? (i := 90) (by decide +kernel)) rfl), by decide +kernel, by decide +kernel, by decide +kernel⟩
abbrev mX10_clear : GM := (yX10_clear, cX10_clear, 3, some .int)
theorem kX10_clear : GCode mX10_clear 1 := ⟨(W0_in (List.mem_of_getElem? (i := 1196) (by decide +kernel)) rfl), (W0_in (List.mem_of_getElem? (i := 90) (by decide +kernel)) rfl), by decide +kernel, by decide +kernel, by decide +kernel⟩
abbrev mX10_sum : GM := (yX10_sum, cX10_sum, 7, some .int)
theorem kX10_sum : GCode mX10_sum 4 := ⟨(W0_in (List.mem_of_getElem? (i := 1204) (by decide +kernel)) rfl), (W0_in (List.mem_of_getElem? (i := 90) (by decide +kernel)) rfl), by decide +kernel, by decide +kernel, by decide +kernel⟩
abbrev mX10_multiply : GM := (yX10_multiply, cX10_multiply, 8, none)
theorem kX10_multiply : GCode mX10_multiply 3 := ⟨(W0_in (List.mem_of_getElem? (i := 1255) (by decide +kernel)) rfl), (W0_in (List.mem_of_getElem? (i := 90) (by decide +kernel)) rfl), by decide +kernel, by decide +kernel, by decide +kernel⟩
abbrev mX10_isWay : GM := (yX10_isWay, cX10_isWay, 2, some .boolean)
theorem kX10_isWay : GCode mX10_isWay 1 := ⟨(W0_in (List.mem_of_getElem? (i := 1228) (by decide +kernel)) rfl), (W0_in (List.mem_of_getElem? (i := 90) (by decide +kernel)) rfl), by decide +kernel, by decide +kernel, by decide +kernel⟩
abbrev mX10_way : GM := (yX10_way, cX10_way, 3, some .int)
theorem kX10_way : GCode mX10_way 2 := ⟨(W0_in (List.mem_of_getElem? (i := 1216) (by decide +kernel)) rfl), (W0_in (List.mem_of_getElem? (i := 90) (by decide +kernel)) rfl), by decide +kernel, by decide +kernel, by decide +kernel⟩
abbrev mX10_layOut : GM := (yX10_layOut, cX10_layOut, 6, none)
theorem kX10_layOut : GCode mX10_layOut 1 := ⟨(W0_in (List.mem_of_getElem? (i := 1246) (by decide +kernel)) rfl), (W0_in (List.mem_of_getElem? (i := 90) (by decide +kernel)) rfl), by decide +kernel, by decide +kernel, by decide +kernel⟩
abbrev mX10_powerFor : GM := (yX10_powerFor, cX10_powerFor, 2, some .int)
theorem kX10_powerFor : GCode mX10_powerFor 1 := ⟨(W0_in (List.mem_of_getElem? (i := 1235) (by decide +kernel)) rfl), (W0_in (List.mem_of_getElem? (i := 90) (by decide +kernel)) rfl), by decide +kernel, by decide +kernel, by decide +kernel⟩
abbrev mX10_same : GM := (yX10_same, cX10_same, 5, some .boolean)
theorem kX10_same : GCode mX10_same 2 := ⟨(W0_in (List.mem_of_getElem? (i := 1240) (by decide +kernel)) rfl), (W0_in (List.mem_of_getElem? (i := 90) (by decide +kernel)) rfl), by decide +kernel, by decide +kernel, by decide +kernel⟩
abbrev mX10_costOf : GM := (yX10_costOf, cX10_costOf, 10, some .long)
theorem kX10_costOf : GCode mX10_costOf 3 := ⟨(W0_in (List.mem_of_getElem? (i := 1232) (by decide +kernel)) rfl), (W0_in (List.mem_of_getElem? (i := 90) (by decide +kernel)) rfl), by decide +kernel, by decide +kernel, by decide +kernel⟩
abbrev mX10_areBad : GM := (yX10_areBad, cX10_areBad, 3, some .boolean)
theorem kX10_areBad : GCode mX10_areBad 2 := ⟨(W0_in (List.mem_of_getElem? (i := 1224) (by decide +kernel)) rfl), (W0_in (List.mem_of_getElem? (i := 90) (by decide +kernel)) rfl), by decide +kernel, by decide +kernel, by decide +kernel⟩
abbrev mX10_isLong : GM := (yX10_isLong, cX10_isLong, 3, some .boolean)
theorem kX10_isLong : GCode mX10_isLong 2 := ⟨(W0_in (List.mem_of_getElem? (i := 1251) (by decide +kernel)) rfl), (W0_in (List.mem_of_getElem? (i := 90) (by decide +kernel)) rfl), by decide +kernel, by decide +kernel, by decide +kernel⟩
abbrev mX10_times : GM := (yX10_times, cX10_times, 8, some .int)
theorem kX10_times : GCode mX10_times 4 := ⟨(W0_in (List.mem_of_getElem? (i := 1220) (by decide +kernel)) rfl), (W0_in (List.mem_of_getElem? (i := 90) (by decide +kernel)) rfl), by decide +kernel, by decide +kernel, by decide +kernel⟩
abbrev mX10_cost : GM := (yX10_cost, cX10_cost, 4, some .int)
theorem kX10_cost : GCode mX10_cost 3 := ⟨(W0_in (List.mem_of_getElem? (i := 1259) (by decide +kernel)) rfl), (W0_in (List.mem_of_getElem? (i := 90) (by decide +kernel)) rfl), by decide +kernel, by decide +kernel, by decide +kernel⟩
abbrev mX10_planOf : GM := (yX10_planOf, cX10_planOf, 7, some .int)
theorem kX10_planOf : GCode mX10_planOf 2 := ⟨(W0_in (List.mem_of_getElem? (i := 1267) (by decide +kernel)) rfl), (W0_in (List.mem_of_getElem? (i := 90) (by decide +kernel)) rfl), by decide +kernel, by decide +kernel, by decide +kernel⟩
abbrev mX10_plan : GM := (yX10_plan, cX10_plan, 3, some .int)
theorem kX10_plan : GCode mX10_plan 2 := ⟨(W0_in (List.mem_of_getElem? (i := 1263) (by decide +kernel)) rfl), (W0_in (List.mem_of_getElem? (i := 90) (by decide +kernel)) rfl), by decide +kernel, by decide +kernel, by decide +kernel⟩
abbrev mX10_planned : GM := (yX10_planned, cX10_planned, 5, some .int)
theorem kX10_planned : GCode mX10_planned 3 := ⟨(W0_in (List.mem_of_getElem? (i := 1338) (by decide +kernel)) rfl), (W0_in (List.mem_of_getElem? (i := 90) (by decide +kernel)) rfl), by decide +kernel, by decide +kernel, by decide +kernel⟩
abbrev mX10_counted : GM := (yX10_counted, cX10_counted, 1, some .long)
theorem kX10_counted : GCode mX10_counted 0 := ⟨(W0_in (List.mem_of_getElem? (i := 1343) (by decide +kernel)) rfl), (W0_in (List.mem_of_getElem? (i := 90) (by decide +kernel)) rfl), by decide +kernel, by decide +kernel, by decide +kernel⟩
abbrev mX10_feed : GM := (yX10_feed, cX10_feed, 5, some .int)
theorem kX10_feed : GCode mX10_feed 2 := ⟨(W0_in (List.mem_of_getElem? (i := 1347) (by decide +kernel)) rfl), (W0_in (List.mem_of_getElem? (i := 90) (by decide +kernel)) rfl), by decide +kernel, by decide +kernel, by decide +kernel⟩
abbrev mX10_byteAt : GM := (yX10_byteAt, cX10_byteAt, 2, some .int)
theorem kX10_byteAt : GCode mX10_byteAt 1 := ⟨(W0_in (List.mem_of_getElem? (i := 1283) (by decide +kernel)) rfl), (W0_in (List.mem_of_getElem? (i := 90) (by decide +kernel)) rfl), by decide +kernel, by decide +kernel, by decide +kernel⟩
abbrev mX10_next : GM := (yX10_next, cX10_next, 3, none)
theorem kX10_next : GCode mX10_next 0 := ⟨(W0_in (List.mem_of_getElem? (i := 1279) (by decide +kernel)) rfl), (W0_in (List.mem_of_getElem? (i := 90) (by decide +kernel)) rfl), by decide +kernel, by decide +kernel, by decide +kernel⟩
abbrev mX10_fail : GM := (yX10_fail, cX10_fail, 1, none)
theorem kX10_fail : GCode mX10_fail 0 := ⟨(W0_in (List.mem_of_getElem? (i := 1296) (by decide +kernel)) rfl), (W0_in (List.mem_of_getElem? (i := 90) (by decide +kernel)) rfl), by decide +kernel, by decide +kernel, by decide +kernel⟩
abbrev mX10_isWord : GM := (yX10_isWord, cX10_isWord, 2, some .boolean)
theorem kX10_isWord : GCode mX10_isWord 1 := ⟨(W0_in (List.mem_of_getElem? (i := 1292) (by decide +kernel)) rfl), (W0_in (List.mem_of_getElem? (i := 90) (by decide +kernel)) rfl), by decide +kernel, by decide +kernel, by decide +kernel⟩
abbrev mX10_isSign : GM := (yX10_isSign, cX10_isSign, 2, some .boolean)
theorem kX10_isSign : GCode mX10_isSign 1 := ⟨(W0_in (List.mem_of_getElem? (i := 1328) (by decide +kernel)) rfl), (W0_in (List.mem_of_getElem? (i := 90) (by decide +kernel)) rfl), by decide +kernel, by decide +kernel, by decide +kernel⟩
abbrev mX10_opens : GM := (yX10_opens, cX10_opens, 1, some .boolean)
theorem kX10_opens : GCode mX10_opens 0 := ⟨(W0_in (List.mem_of_getElem? (i := 1312) (by decide +kernel)) rfl), (W0_in (List.mem_of_getElem? (i := 90) (by decide +kernel)) rfl), by decide +kernel, by decide +kernel, by decide +kernel⟩
abbrev mX10_name : GM := (yX10_name, cX10_name, 1, some .int)
theorem kX10_name : GCode mX10_name 0 := ⟨(W0_in (List.mem_of_getElem? (i := 1332) (by decide +kernel)) rfl), (W0_in (List.mem_of_getElem? (i := 90) (by decide +kernel)) rfl), by decide +kernel, by decide +kernel, by decide +kernel⟩
abbrev mX10_one : GM := (yX10_one, cX10_one, 2, some .int)
theorem kX10_one : GCode mX10_one 0 := ⟨(W0_in (List.mem_of_getElem? (i := 1324) (by decide +kernel)) rfl), (W0_in (List.mem_of_getElem? (i := 90) (by decide +kernel)) rfl), by decide +kernel, by decide +kernel, by decide +kernel⟩
abbrev mX10_term : GM := (yX10_term, cX10_term, 2, some .int)
theorem kX10_term : GCode mX10_term 0 := ⟨(W0_in (List.mem_of_getElem? (i := 1320) (by decide +kernel)) rfl), (W0_in (List.mem_of_getElem? (i := 90) (by decide +kernel)) rfl), by decide +kernel, by decide +kernel, by decide +kernel⟩
abbrev mX10_added : GM := (yX10_added, cX10_added, 4, some .int)
theorem kX10_added : GCode mX10_added 0 := ⟨(W0_in (List.mem_of_getElem? (i := 1316) (by decide +kernel)) rfl), (W0_in (List.mem_of_getElem? (i := 90) (by decide +kernel)) rfl), by decide +kernel, by decide +kernel, by decide +kernel⟩
abbrev mX10_not : GM := (yX10_not, cX10_not, 4, some .int)
theorem kX10_not : GCode mX10_not 0 := ⟨(W0_in (List.mem_of_getElem? (i := 1308) (by decide +kernel)) rfl), (W0_in (List.mem_of_getElem? (i := 90) (by decide +kernel)) rfl), by decide +kernel, by decide +kernel, by decide +kernel⟩
abbrev mX10_both : GM := (yX10_both, cX10_both, 3, some .int)
theorem kX10_both : GCode mX10_both 0 := ⟨(W0_in (List.mem_of_getElem? (i := 1304) (by decide +kernel)) rfl), (W0_in (List.mem_of_getElem? (i := 90) (by decide +kernel)) rfl), by decide +kernel, by decide +kernel, by decide +kernel⟩
abbrev mX10_either : GM := (yX10_either, cX10_either, 3, some .int)
theorem kX10_either : GCode mX10_either 0 := ⟨(W0_in (List.mem_of_getElem? (i := 1300) (by decide +kernel)) rfl), (W0_in (List.mem_of_getElem? (i := 90) (by decide +kernel)) rfl), by decide +kernel, by decide +kernel, by decide +kernel⟩
abbrev mX10_part : GM := (yX10_part, cX10_part, 3, some .int)
theorem kX10_part : GCode mX10_part 1 := ⟨(W0_in (List.mem_of_getElem? (i := 1288) (by decide +kernel)) rfl), (W0_in (List.mem_of_getElem? (i := 90) (by decide +kernel)) rfl), by decide +kernel, by decide +kernel, by decide +kernel⟩
abbrev mX10_read : GM := (yX10_read, cX10_read, 6, some .int)
theorem kX10_read : GCode mX10_read 2 := ⟨(W0_in (List.mem_of_getElem? (i := 1275) (by decide +kernel)) rfl), (W0_in (List.mem_of_getElem? (i := 90) (by decide +kernel)) rfl), by decide +kernel, by decide +kernel, by decide +kernel⟩
abbrev mX10_saysOf : GM := (yX10_saysOf, cX10_saysOf, 4, some .int)
theorem kX10_saysOf : GCode mX10_saysOf 3 := ⟨(W0_in (List.mem_of_getElem? (i := 1271) (by decide +kernel)) rfl), (W0_in (List.mem_of_getElem? (i := 90) (by decide +kernel)) rfl), by decide +kernel, by decide +kernel, by decide +kernel⟩
abbrev mX10_text : GM := (yX10_text, cX10_text, 2, some .int)
theorem kX10_text : GCode mX10_text 0 := ⟨(W0_in (List.mem_of_getElem? (i := 1351) (by decide +kernel)) rfl), (W0_in (List.mem_of_getElem? (i := 90) (by decide +kernel)) rfl), by decide +kernel, by decide +kernel, by decide +kernel⟩
abbrev mX10_force : GM := (yX10_force, cX10_force, 3, some .int)
theorem kX10_force : GCode mX10_force 1 := ⟨(W0_in (List.mem_of_getElem? (i := 1355) (by decide +kernel)) rfl), (W0_in (List.mem_of_getElem? (i := 90) (by decide +kernel)) rfl), by decide +kernel, by decide +kernel, by decide +kernel⟩
abbrev mX10_says : GM := (yX10_says, cX10_says, 4, some .long)
theorem kX10_says : GCode mX10_says 3 := ⟨(W0_in (List.mem_of_getElem? (i := 1359) (by decide +kernel)) rfl), (W0_in (List.mem_of_getElem? (i := 90) (by decide +kernel)) rfl), by decide +kernel, by decide +kernel, by decide +kernel⟩
abbrev mX10_divideRows : GM := (yX10_divideRows, cX10_divideRows, 9, none)
theorem kX10_divideRows : GCode mX10_divideRows 3 := ⟨(W0_in (List.mem_of_getElem? (i := 1368) (by decide +kernel)) rfl), (W0_in (List.mem_of_getElem? (i := 90) (by decide +kernel)) rfl), by decide +kernel, by decide +kernel, by decide +kernel⟩
abbrev mX10_divide : GM := (yX10_divide, cX10_divide, 5, some .int)
theorem kX10_divide : GCode mX10_divide 4 := ⟨(W0_in (List.mem_of_getElem? (i := 1364) (by decide +kernel)) rfl), (W0_in (List.mem_of_getElem? (i := 90) (by decide +kernel)) rfl), by decide +kernel, by decide +kernel, by decide +kernel⟩
abbrev mX10_scale : GM := (yX10_scale, cX10_scale, 4, none)
theorem kX10_scale : GCode mX10_scale 2 := ⟨(W0_in (List.mem_of_getElem? (i := 1388) (by decide +kernel)) rfl), (W0_in (List.mem_of_getElem? (i := 90) (by decide +kernel)) rfl), by decide +kernel, by decide +kernel, by decide +kernel⟩
abbrev mX10_common : GM := (yX10_common, cX10_common, 4, none)
theorem kX10_common : GCode mX10_common 2 := ⟨(W0_in (List.mem_of_getElem? (i := 1384) (by decide +kernel)) rfl), (W0_in (List.mem_of_getElem? (i := 90) (by decide +kernel)) rfl), by decide +kernel, by decide +kernel, by decide +kernel⟩
abbrev mX10_gcd : GM := (yX10_gcd, cX10_gcd, 4, some .int)
theorem kX10_gcd : GCode mX10_gcd 3 := ⟨(W0_in (List.mem_of_getElem? (i := 1380) (by decide +kernel)) rfl), (W0_in (List.mem_of_getElem? (i := 90) (by decide +kernel)) rfl), by decide +kernel, by decide +kernel, by decide +kernel⟩
abbrev mX10_cofactor : GM := (yX10_cofactor, cX10_cofactor, 4, some .int)
theorem kX10_cofactor : GCode mX10_cofactor 3 := ⟨(W0_in (List.mem_of_getElem? (i := 1392) (by decide +kernel)) rfl), (W0_in (List.mem_of_getElem? (i := 90) (by decide +kernel)) rfl), by decide +kernel, by decide +kernel, by decide +kernel⟩
abbrev mX10_compose : GM := (yX10_compose, cX10_compose, 7, some .int)
theorem kX10_compose : GCode mX10_compose 3 := ⟨(W0_in (List.mem_of_getElem? (i := 1396) (by decide +kernel)) rfl), (W0_in (List.mem_of_getElem? (i := 90) (by decide +kernel)) rfl), by decide +kernel, by decide +kernel, by decide +kernel⟩
abbrev mX10_moveRow : GM := (yX10_moveRow, cX10_moveRow, 6, none)
theorem kX10_moveRow : GCode mX10_moveRow 2 := ⟨(W0_in (List.mem_of_getElem? (i := 1404) (by decide +kernel)) rfl), (W0_in (List.mem_of_getElem? (i := 90) (by decide +kernel)) rfl), by decide +kernel, by decide +kernel, by decide +kernel⟩
abbrev mX10_move : GM := (yX10_move, cX10_move, 4, some .int)
theorem kX10_move : GCode mX10_move 3 := ⟨(W0_in (List.mem_of_getElem? (i := 1400) (by decide +kernel)) rfl), (W0_in (List.mem_of_getElem? (i := 90) (by decide +kernel)) rfl), by decide +kernel, by decide +kernel, by decide +kernel⟩
abbrev mX10_worth : GM := (yX10_worth, cX10_worth, 5, some .int)
theorem kX10_worth : GCode mX10_worth 2 := ⟨(W0_in (List.mem_of_getElem? (i := 1412) (by decide +kernel)) rfl), (W0_in (List.mem_of_getElem? (i := 90) (by decide +kernel)) rfl), by decide +kernel, by decide +kernel, by decide +kernel⟩
abbrev mX10_root : GM := (yX10_root, cX10_root, 5, some .int)
theorem kX10_root : GCode mX10_root 2 := ⟨(W0_in (List.mem_of_getElem? (i := 1408) (by decide +kernel)) rfl), (W0_in (List.mem_of_getElem? (i := 90) (by decide +kernel)) rfl), by decide +kernel, by decide +kernel, by decide +kernel⟩
abbrev mX10_order : GM := (yX10_order, cX10_order, 4, some .int)
theorem kX10_order : GCode mX10_order 2 := ⟨(W0_in (List.mem_of_getElem? (i := 1416) (by decide +kernel)) rfl), (W0_in (List.mem_of_getElem? (i := 90) (by decide +kernel)) rfl), by decide +kernel, by decide +kernel, by decide +kernel⟩
abbrev mX10_isPlace : GM := (yX10_isPlace, cX10_isPlace, 2, some .boolean)
theorem kX10_isPlace : GCode mX10_isPlace 1 := ⟨(W0_in (List.mem_of_getElem? (i := 1432) (by decide +kernel)) rfl), (W0_in (List.mem_of_getElem? (i := 90) (by decide +kernel)) rfl), by decide +kernel, by decide +kernel, by decide +kernel⟩
abbrev mX10_place : GM := (yX10_place, cX10_place, 2, some .int)
theorem kX10_place : GCode mX10_place 1 := ⟨(W0_in (List.mem_of_getElem? (i := 1420) (by decide +kernel)) rfl), (W0_in (List.mem_of_getElem? (i := 90) (by decide +kernel)) rfl), by decide +kernel, by decide +kernel, by decide +kernel⟩
abbrev mX10_leave : GM := (yX10_leave, cX10_leave, 2, some .int)
theorem kX10_leave : GCode mX10_leave 0 := ⟨(W0_in (List.mem_of_getElem? (i := 1424) (by decide +kernel)) rfl), (W0_in (List.mem_of_getElem? (i := 90) (by decide +kernel)) rfl), by decide +kernel, by decide +kernel, by decide +kernel⟩
abbrev mX10_see : GM := (yX10_see, cX10_see, 4, some .int)
theorem kX10_see : GCode mX10_see 2 := ⟨(W0_in (List.mem_of_getElem? (i := 1428) (by decide +kernel)) rfl), (W0_in (List.mem_of_getElem? (i := 90) (by decide +kernel)) rfl), by decide +kernel, by decide +kernel, by decide +kernel⟩
abbrev mX10_told : GM := (yX10_told, cX10_told, 3, some .int)
theorem kX10_told : GCode mX10_told 2 := ⟨(W0_in (List.mem_of_getElem? (i := 1436) (by decide +kernel)) rfl), (W0_in (List.mem_of_getElem? (i := 90) (by decide +kernel)) rfl), by decide +kernel, by decide +kernel, by decide +kernel⟩
abbrev mX10_value : GM := (yX10_value, cX10_value, 3, some .int)
theorem kX10_value : GCode mX10_value 2 := ⟨(W0_in (List.mem_of_getElem? (i := 1440) (by decide +kernel)) rfl), (W0_in (List.mem_of_getElem? (i := 90) (by decide +kernel)) rfl), by decide +kernel, by decide +kernel, by decide +kernel⟩
abbrev mX10_look : GM := (yX10_look, cX10_look, 3, some .int)
theorem kX10_look : GCode mX10_look 1 := ⟨(W0_in (List.mem_of_getElem? (i := 1444) (by decide +kernel)) rfl), (W0_in (List.mem_of_getElem? (i := 90) (by decide +kernel)) rfl), by decide +kernel, by decide +kernel, by decide +kernel⟩
abbrev mX10_solve : GM := (yX10_solve, cX10_solve, 11, some .boolean)
theorem kX10_solve : GCode mX10_solve 3 := ⟨(W0_in (List.mem_of_getElem? (i := 1452) (by decide +kernel)) rfl), (W0_in (List.mem_of_getElem? (i := 90) (by decide +kernel)) rfl), by decide +kernel, by decide +kernel, by decide +kernel⟩
abbrev mX10_fill : GM := (yX10_fill, cX10_fill, 8, some .int)
theorem kX10_fill : GCode mX10_fill 1 := ⟨(W0_in (List.mem_of_getElem? (i := 1448) (by decide +kernel)) rfl), (W0_in (List.mem_of_getElem? (i := 90) (by decide +kernel)) rfl), by decide +kernel, by decide +kernel, by decide +kernel⟩
abbrev mX10_areUnlike : GM := (yX10_areUnlike, cX10_areUnlike, 3, some .boolean)
theorem kX10_areUnlike : GCode mX10_areUnlike 0 := ⟨(W0_in (List.mem_of_getElem? (i := 1460) (by decide +kernel)) rfl), (W0_in (List.mem_of_getElem? (i := 90) (by decide +kernel)) rfl), by decide +kernel, by decide +kernel, by decide +kernel⟩
abbrev mX10_right : GM := (yX10_right, cX10_right, 6, some .int)
theorem kX10_right : GCode mX10_right 2 := ⟨(W0_in (List.mem_of_getElem? (i := 1456) (by decide +kernel)) rfl), (W0_in (List.mem_of_getElem? (i := 90) (by decide +kernel)) rfl), by decide +kernel, by decide +kernel, by decide +kernel⟩
abbrev mX10_relate : GM := (yX10_relate, cX10_relate, 7, none)
theorem kX10_relate : GCode mX10_relate 0 := ⟨(W0_in (List.mem_of_getElem? (i := 1468) (by decide +kernel)) rfl), (W0_in (List.mem_of_getElem? (i := 90) (by decide +kernel)) rfl), by decide +kernel, by decide +kernel, by decide +kernel⟩
abbrev mX10_relation : GM := (yX10_relation, cX10_relation, 2, some .int)
theorem kX10_relation : GCode mX10_relation 1 := ⟨(W0_in (List.mem_of_getElem? (i := 1464) (by decide +kernel)) rfl), (W0_in (List.mem_of_getElem? (i := 90) (by decide +kernel)) rfl), by decide +kernel, by decide +kernel, by decide +kernel⟩
abbrev mX10_power : GM := (yX10_power, cX10_power, 4, some .int)
theorem kX10_power : GCode mX10_power 1 := ⟨(W0_in (List.mem_of_getElem? (i := 1472) (by decide +kernel)) rfl), (W0_in (List.mem_of_getElem? (i := 90) (by decide +kernel)) rfl), by decide +kernel, by decide +kernel, by decide +kernel⟩
abbrev mX10_count : GM := (yX10_count, cX10_count, 2, some .int)
theorem kX10_count : GCode mX10_count 1 := ⟨(W0_in (List.mem_of_getElem? (i := 1476) (by decide +kernel)) rfl), (W0_in (List.mem_of_getElem? (i := 90) (by decide +kernel)) rfl), by decide +kernel, by decide +kernel, by decide +kernel⟩
abbrev mX10_isSheet : GM := (yX10_isSheet, cX10_isSheet, 1, some .boolean)
theorem kX10_isSheet : GCode mX10_isSheet 1 := ⟨(W0_in (List.mem_of_getElem? (i := 1483) (by decide +kernel)) rfl), (W0_in (List.mem_of_getElem? (i := 90) (by decide +kernel)) rfl), by decide +kernel, by decide +kernel, by decide +kernel⟩
abbrev mX10_sheet : GM := (yX10_sheet, cX10_sheet, 5, some .int)
theorem kX10_sheet : GCode mX10_sheet 3 := ⟨(W0_in (List.mem_of_getElem? (i := 1480) (by decide +kernel)) rfl), (W0_in (List.mem_of_getElem? (i := 90) (by decide +kernel)) rfl), by decide +kernel, by decide +kernel, by decide +kernel⟩
abbrev mX10_cell : GM := (yX10_cell, cX10_cell, 4, some .int)
theorem kX10_cell : GCode mX10_cell 3 := ⟨(W0_in (List.mem_of_getElem? (i := 1487) (by decide +kernel)) rfl), (W0_in (List.mem_of_getElem? (i := 90) (by decide +kernel)) rfl), by decide +kernel, by decide +kernel, by decide +kernel⟩
abbrev mX10_lay : GM := (yX10_lay, cX10_lay, 7, some .int)
theorem kX10_lay : GCode mX10_lay 5 := ⟨(W0_in (List.mem_of_getElem? (i := 1491) (by decide +kernel)) rfl), (W0_in (List.mem_of_getElem? (i := 90) (by decide +kernel)) rfl), by decide +kernel, by decide +kernel, by decide +kernel⟩
abbrev mX10_over : GM := (yX10_over, cX10_over, 1, some .int)
theorem kX10_over : GCode mX10_over 1 := ⟨(W0_in (List.mem_of_getElem? (i := 1498) (by decide +kernel)) rfl), (W0_in (List.mem_of_getElem? (i := 90) (by decide +kernel)) rfl), by decide +kernel, by decide +kernel, by decide +kernel⟩
abbrev mX10_taken : GM := (yX10_taken, cX10_taken, 4, some .int)
theorem kX10_taken : GCode mX10_taken 2 := ⟨(W0_in (List.mem_of_getElem? (i := 1495) (by decide +kernel)) rfl), (W0_in (List.mem_of_getElem? (i := 90) (by decide +kernel)) rfl), by decide +kernel, by decide +kernel, by decide +kernel⟩
abbrev mJ9_floorMod_7cf53 : GM := (yJ9_floorMod_7cf53, cJ9_floorMod_7cf53, 3, some .int)
theorem kJ9_floorMod_7cf53 : GCode mJ9_floorMod_7cf53 2 := ⟨(W0_in (List.mem_of_getElem? (i := 161) (by decide +kernel)) rfl), (W0_in (List.mem_of_getElem? (i := 78) (by decide +kernel)) rfl), by decide +kernel, by decide +kernel, by decide +kernel⟩
abbrev mJ9_max_7cf53 : GM := (yJ9_max_7cf53, cJ9_max_7cf53, 2, some .int)
theorem kJ9_max_7cf53 : GCode mJ9_max_7cf53 2 := ⟨(W0_in (List.mem_of_getElem? (i := 109) (by decide +kernel)) rfl), (W0_in (List.mem_of_getElem? (i := 78) (by decide +kernel)) rfl), by decide +kernel, by decide +kernel, by decide +kernel⟩
abbrev mJ9_min_7cf53 : GM := (yJ9_min_7cf53, cJ9_min_7cf53, 2, some .int)
theorem kJ9_min_7cf53 : GCode mJ9_min_7cf53 2 := ⟨(W0_in (List.mem_of_getElem? (i := 676) (by decide +kernel)) rfl), (W0_in (List.mem_of_getElem? (i := 78) (by decide +kernel)) rfl), by decide +kernel, by decide +kernel, by decide +kernel⟩
abbrev mJ0_length_8abf5 : GM := (yJ0_length_8abf5, cJ0_length_8abf5, 1, some .int)
theorem kJ0_length_8abf5 : GCode mJ0_length_8abf5 0 := ⟨(W0_in (List.mem_of_getElem? (i := 312) (by decide +kernel)) rfl), (W0_in (List.mem_of_getElem? (i := 86) (by decide +kernel)) rfl), by decide +kernel, by decide +kernel, by decide +kernel⟩
abbrev mJ0_charAt_5068e : GM := (yJ0_charAt_5068e, cJ0_charAt_5068e, 2, some .char)
theorem kJ0_charAt_5068e : GCode mJ0_charAt_5068e 1 := ⟨(W0_in (List.mem_of_getElem? (i := 322) (by decide +kernel)) rfl), (W0_in (List.mem_of_getElem? (i := 86) (by decide +kernel)) rfl), by decide +kernel, by decide +kernel, by decide +kernel⟩
abbrev mJ0_coder_7d493 : GM := (yJ0_coder_7d493, cJ0_coder_7d493, 1, some .byte)
theorem kJ0_coder_7d493 : GCode mJ0_coder_7d493 0 := ⟨(W0_in (List.mem_of_getElem? (i := 316) (by decide +kernel)) rfl), (W0_in (List.mem_of_getElem? (i := 86) (by decide +kernel)) rfl), by decide +kernel, by decide +kernel, by decide +kernel⟩
abbrev mJ0_isLatin1_aae02 : GM := (yJ0_isLatin1_aae02, cJ0_isLatin1_aae02, 1, some .boolean)
theorem kJ0_isLatin1_aae02 : GCode mJ0_isLatin1_aae02 0 := ⟨(W0_in (List.mem_of_getElem? (i := 326) (by decide +kernel)) rfl), (W0_in (List.mem_of_getElem? (i := 86) (by decide +kernel)) rfl), by decide +kernel, by decide +kernel, by decide +kernel⟩
abbrev mJ0_checkIndex_df160 : GM := (yJ0_checkIndex_df160, cJ0_checkIndex_df160, 2, none)
theorem kJ0_checkIndex_df160 : GCode mJ0_checkIndex_df160 2 := ⟨(W0_in (List.mem_of_getElem? (i := 332) (by decide +kernel)) rfl), (W0_in (List.mem_of_getElem? (i := 86) (by decide +kernel)) rfl), by decide +kernel, by decide +kernel, by decide +kernel⟩
abbrev mJ1_charAt_3b067 : GM := (yJ1_charAt_3b067, cJ1_charAt_3b067, 2, some .char)
theorem kJ1_charAt_3b067 : GCode mJ1_charAt_3b067 2 := ⟨(W0_in (List.mem_of_getElem? (i := 329) (by decide +kernel)) rfl), (W0_in (List.mem_of_getElem? (i := 87) (by decide +kernel)) rfl), by decide +kernel, by decide +kernel, by decide +kernel⟩
abbrev mJ2_getChar_3b067 : GM := (yJ2_getChar_3b067, cJ2_getChar_3b067, 2, some .char)
theorem kJ2_getChar_3b067 : GCode mJ2_getChar_3b067 2 := ⟨(W0_in (List.mem_of_getElem? (i := 350) (by decide +kernel)) rfl), (W0_in (List.mem_of_getElem? (i := 89) (by decide +kernel)) rfl), by decide +kernel, by decide +kernel, by decide +kernel⟩
abbrev mJ2_length_9d52b : GM := (yJ2_length_9d52b, cJ2_length_9d52b, 1, some .int)
theorem kJ2_length_9d52b : GCode mJ2_length_9d52b 1 := ⟨(W0_in (List.mem_of_getElem? (i := 346) (by decide +kernel)) rfl), (W0_in (List.mem_of_getElem? (i := 89) (by decide +kernel)) rfl), by decide +kernel, by decide +kernel, by decide +kernel⟩
abbrev mJ2_charAt_3b067 : GM := (yJ2_charAt_3b067, cJ2_charAt_3b067, 2, some .char)
theorem kJ2_charAt_3b067 : GCode mJ2_charAt_3b067 2 := ⟨(W0_in (List.mem_of_getElem? (i := 340) (by decide +kernel)) rfl), (W0_in (List.mem_of_getElem? (i := 89) (by decide +kernel)) rfl), by decide +kernel, by decide +kernel, by decide +kernel⟩
abbrev mJ2_checkIndex_2214a : GM := (yJ2_checkIndex_2214a, cJ2_checkIndex_2214a, 2, none)
theorem kJ2_checkIndex_2214a : GCode mJ2_checkIndex_2214a 2 := ⟨(W0_in (List.mem_of_getElem? (i := 343) (by decide +kernel)) rfl), (W0_in (List.mem_of_getElem? (i := 89) (by decide +kernel)) rfl), by decide +kernel, by decide +kernel, by decide +kernel⟩
abbrev mJ3_checkIndex_8e157 : GM := (yJ3_checkIndex_8e157, cJ3_checkIndex_8e157, 3, some .int)
theorem kJ3_checkIndex_8e157 : GCode mJ3_checkIndex_8e157 3 := ⟨(W0_in (List.mem_of_getElem? (i := 337) (by decide +kernel)) rfl), (W0_in (List.mem_of_getElem? (i := 88) (by decide +kernel)) rfl), by decide +kernel, by decide +kernel, by decide +kernel⟩
abbrev mL_cell : GM := (yL_cell, cL_cell, 2, some .int)
theorem kL_cell : GCode mL_cell 2 := ⟨(W0_in (List.mem_of_getElem? (i := 1039) (by decide +kernel)) rfl), (W0_in (List.mem_of_getElem? (i := 75) (by decide +kernel)) rfl), by decide +kernel, by decide +kernel, by decide +kernel⟩
theorem lkL_15 : GSpec RL 15 mX9_init := ⟨(W0_in (List.mem_of_getElem? (i := 94) (by decide +kernel)) rfl), (W0_in (List.mem_of_getElem? (i := 95) (by decide +kernel)) rfl), rfl, rfl⟩
theorem lkX9_3 : Cond.methodLink RX9 3 objectInit ∈ W0 := (W0_in (List.mem_of_getElem? (i := 97) (by decide +kernel)) rfl)
theorem lkX9_15 : GSpec RX9 15 mX4_init := ⟨(W0_in (List.mem_of_getElem? (i := 103) (by decide +kernel)) rfl), (W0_in (List.mem_of_getElem? (i := 104) (by decide +kernel)) rfl), rfl, rfl⟩
theorem lkX4_1 : Cond.methodLink RX4 1 objectInit ∈ W0 := (W0_in (List.mem_of_getElem? (i := 106) (by decide +kernel)) rfl)
theorem lkX4_7 : GStat RX4 7 mJ9_max_7cf53 := ⟨(W0_in (List.mem_of_getElem? (i := 107) (by decide +kernel)) rfl), (W0_in (List.mem_of_getElem? (i := 108) (by decide +kernel)) rfl)⟩
theorem lkX6_3 : Cond.methodLink RX6 3 objectInit ∈ W0 := (W0_in (List.mem_of_getElem? (i := 125) (by decide +kernel)) rfl)
theorem lkX9_53 : GSpec RX9 53 mX3_init := ⟨(W0_in (List.mem_of_getElem? (i := 152) (by decide +kernel)) rfl), (W0_in (List.mem_of_getElem? (i := 153) (by decide +kernel)) rfl), rfl, rfl⟩
theorem lkX3_1 : Cond.methodLink RX3 1 objectInit ∈ W0 := (W0_in (List.mem_of_getElem? (i := 155) (by decide +kernel)) rfl)
theorem lkX3_7 : GStat RX3 7 mX3_primeOf := ⟨(W0_in (List.mem_of_getElem? (i := 156) (by decide +kernel)) rfl), (W0_in (List.mem_of_getElem? (i := 157) (by decide +kernel)) rfl)⟩
theorem lkX3_17 : GStat RX3 17 mJ9_floorMod_7cf53 := ⟨(W0_in (List.mem_of_getElem? (i := 159) (by decide +kernel)) rfl), (W0_in (List.mem_of_getElem? (i := 160) (by decide +kernel)) rfl)⟩
theorem lkX9_60 : GSpec RX9 60 mX0_init := ⟨(W0_in (List.mem_of_getElem? (i := 168) (by decide +kernel)) rfl), (W0_in (List.mem_of_getElem? (i := 169) (by decide +kernel)) rfl), rfl, rfl⟩
theorem lkX0_3 : Cond.methodLink RX0 3 objectInit ∈ W0 := (W0_in (List.mem_of_getElem? (i := 171) (by decide +kernel)) rfl)
theorem lkX0_11 : GSpec RX0 11 mX4_init := ⟨(W0_in (List.mem_of_getElem? (i := 173) (by decide +kernel)) rfl), (W0_in (List.mem_of_getElem? (i := 104) (by decide +kernel)) rfl), rfl, rfl⟩
theorem lkX9_69 : GSpec RX9 69 mX2_init := ⟨(W0_in (List.mem_of_getElem? (i := 204) (by decide +kernel)) rfl), (W0_in (List.mem_of_getElem? (i := 205) (by decide +kernel)) rfl), rfl, rfl⟩
theorem lkX2_3 : Cond.methodLink RX2 3 objectInit ∈ W0 := (W0_in (List.mem_of_getElem? (i := 207) (by decide +kernel)) rfl)
theorem lkX2_20 : GSpec RX2 20 mX4_init := ⟨(W0_in (List.mem_of_getElem? (i := 209) (by decide +kernel)) rfl), (W0_in (List.mem_of_getElem? (i := 104) (by decide +kernel)) rfl), rfl, rfl⟩
theorem lkX9_78 : GSpec RX9 78 mX1_init := ⟨(W0_in (List.mem_of_getElem? (i := 243) (by decide +kernel)) rfl), (W0_in (List.mem_of_getElem? (i := 244) (by decide +kernel)) rfl), rfl, rfl⟩
theorem lkX1_3 : Cond.methodLink RX1 3 objectInit ∈ W0 := (W0_in (List.mem_of_getElem? (i := 246) (by decide +kernel)) rfl)
theorem lkX7_3 : Cond.methodLink RX7 3 objectInit ∈ W0 := (W0_in (List.mem_of_getElem? (i := 252) (by decide +kernel)) rfl)
theorem lkX5_3 : Cond.methodLink RX5 3 objectInit ∈ W0 := (W0_in (List.mem_of_getElem? (i := 292) (by decide +kernel)) rfl)
theorem lkX9_89 : GVirt RX9 89 mX6_write := ⟨(W0_in (List.mem_of_getElem? (i := 305) (by decide +kernel)) rfl), (W0_in (List.mem_of_getElem? (i := 306) (by decide +kernel)) rfl), (W0_in (List.mem_of_getElem? (i := 307) (by decide +kernel)) rfl)⟩
theorem lkX6_33 : GVirt RX6 33 mJ0_length_8abf5 := ⟨(W0_in (List.mem_of_getElem? (i := 309) (by decide +kernel)) rfl), (W0_in (List.mem_of_getElem? (i := 310) (by decide +kernel)) rfl), (W0_in (List.mem_of_getElem? (i := 311) (by decide +kernel)) rfl)⟩
theorem lkJ0_335 : GVirt RJ0 335 mJ0_coder_7d493 := ⟨(W0_in (List.mem_of_getElem? (i := 313) (by decide +kernel)) rfl), (W0_in (List.mem_of_getElem? (i := 314) (by decide +kernel)) rfl), (W0_in (List.mem_of_getElem? (i := 315) (by decide +kernel)) rfl)⟩
theorem lkX6_39 : GVirt RX6 39 mJ0_charAt_5068e := ⟨(W0_in (List.mem_of_getElem? (i := 319) (by decide +kernel)) rfl), (W0_in (List.mem_of_getElem? (i := 320) (by decide +kernel)) rfl), (W0_in (List.mem_of_getElem? (i := 321) (by decide +kernel)) rfl)⟩
theorem lkJ0_492 : GVirt RJ0 492 mJ0_isLatin1_aae02 := ⟨(W0_in (List.mem_of_getElem? (i := 323) (by decide +kernel)) rfl), (W0_in (List.mem_of_getElem? (i := 324) (by decide +kernel)) rfl), (W0_in (List.mem_of_getElem? (i := 325) (by decide +kernel)) rfl)⟩
theorem lkJ0_495 : GStat RJ0 495 mJ1_charAt_3b067 := ⟨(W0_in (List.mem_of_getElem? (i := 327) (by decide +kernel)) rfl), (W0_in (List.mem_of_getElem? (i := 328) (by decide +kernel)) rfl)⟩
theorem lkJ1_9 : GStat RJ1 9 mJ0_checkIndex_df160 := ⟨(W0_in (List.mem_of_getElem? (i := 330) (by decide +kernel)) rfl), (W0_in (List.mem_of_getElem? (i := 331) (by decide +kernel)) rfl)⟩
theorem lkJ0_1059 : GStat RJ0 1059 mJ3_checkIndex_8e157 := ⟨(W0_in (List.mem_of_getElem? (i := 335) (by decide +kernel)) rfl), (W0_in (List.mem_of_getElem? (i := 336) (by decide +kernel)) rfl)⟩
theorem lkJ0_498 : GStat RJ0 498 mJ2_charAt_3b067 := ⟨(W0_in (List.mem_of_getElem? (i := 338) (by decide +kernel)) rfl), (W0_in (List.mem_of_getElem? (i := 339) (by decide +kernel)) rfl)⟩
theorem lkJ2_67 : GStat RJ2 67 mJ2_checkIndex_2214a := ⟨(W0_in (List.mem_of_getElem? (i := 341) (by decide +kernel)) rfl), (W0_in (List.mem_of_getElem? (i := 342) (by decide +kernel)) rfl)⟩
theorem lkJ2_48 : GStat RJ2 48 mJ2_length_9d52b := ⟨(W0_in (List.mem_of_getElem? (i := 344) (by decide +kernel)) rfl), (W0_in (List.mem_of_getElem? (i := 345) (by decide +kernel)) rfl)⟩
theorem lkJ2_414 : GStat RJ2 414 mJ0_checkIndex_df160 := ⟨(W0_in (List.mem_of_getElem? (i := 347) (by decide +kernel)) rfl), (W0_in (List.mem_of_getElem? (i := 331) (by decide +kernel)) rfl)⟩
theorem lkJ2_71 : GStat RJ2 71 mJ2_getChar_3b067 := ⟨(W0_in (List.mem_of_getElem? (i := 348) (by decide +kernel)) rfl), (W0_in (List.mem_of_getElem? (i := 349) (by decide +kernel)) rfl)⟩
theorem lkX6_29 : GVirt RX6 29 mX6_add := ⟨(W0_in (List.mem_of_getElem? (i := 357) (by decide +kernel)) rfl), (W0_in (List.mem_of_getElem? (i := 359) (by decide +kernel)) rfl), (W0_in (List.mem_of_getElem? (i := 0) (by decide +kernel)) rfl)⟩
theorem lkX9_93 : GVirt RX9 93 mX6_cutUp := ⟨(W0_in (List.mem_of_getElem? (i := 361) (by decide +kernel)) rfl), (W0_in (List.mem_of_getElem? (i := 362) (by decide +kernel)) rfl), (W0_in (List.mem_of_getElem? (i := 363) (by decide +kernel)) rfl)⟩
theorem lkX6_46 : GVirt RX6 46 mX6_skipBlanks := ⟨(W0_in (List.mem_of_getElem? (i := 365) (by decide +kernel)) rfl), (W0_in (List.mem_of_getElem? (i := 367) (by decide +kernel)) rfl), (W0_in (List.mem_of_getElem? (i := 1) (by decide +kernel)) rfl)⟩
theorem lkX6_52 : GVirt RX6 52 mX6_byteAt := ⟨(W0_in (List.mem_of_getElem? (i := 369) (by decide +kernel)) rfl), (W0_in (List.mem_of_getElem? (i := 371) (by decide +kernel)) rfl), (W0_in (List.mem_of_getElem? (i := 2) (by decide +kernel)) rfl)⟩
theorem lkX6_49 : GVirt RX6 49 mX6_readToken := ⟨(W0_in (List.mem_of_getElem? (i := 373) (by decide +kernel)) rfl), (W0_in (List.mem_of_getElem? (i := 375) (by decide +kernel)) rfl), (W0_in (List.mem_of_getElem? (i := 3) (by decide +kernel)) rfl)⟩
theorem lkX6_56 : GStat RX6 56 mX6_isLetter := ⟨(W0_in (List.mem_of_getElem? (i := 377) (by decide +kernel)) rfl), (W0_in (List.mem_of_getElem? (i := 378) (by decide +kernel)) rfl)⟩
theorem lkX6_60 : GVirt RX6 60 mX6_readWord := ⟨(W0_in (List.mem_of_getElem? (i := 380) (by decide +kernel)) rfl), (W0_in (List.mem_of_getElem? (i := 382) (by decide +kernel)) rfl), (W0_in (List.mem_of_getElem? (i := 4) (by decide +kernel)) rfl)⟩
theorem lkX6_72 : GVirt RX6 72 mX6_keyOrName := ⟨(W0_in (List.mem_of_getElem? (i := 384) (by decide +kernel)) rfl), (W0_in (List.mem_of_getElem? (i := 386) (by decide +kernel)) rfl), (W0_in (List.mem_of_getElem? (i := 5) (by decide +kernel)) rfl)⟩
theorem lkX6_77 : GVirt RX6 77 mX6_spells := ⟨(W0_in (List.mem_of_getElem? (i := 389) (by decide +kernel)) rfl), (W0_in (List.mem_of_getElem? (i := 391) (by decide +kernel)) rfl), (W0_in (List.mem_of_getElem? (i := 6) (by decide +kernel)) rfl)⟩
theorem lkX6_63 : GStat RX6 63 mX6_isDigit := ⟨(W0_in (List.mem_of_getElem? (i := 404) (by decide +kernel)) rfl), (W0_in (List.mem_of_getElem? (i := 405) (by decide +kernel)) rfl)⟩
theorem lkX6_66 : GVirt RX6 66 mX6_readNumber := ⟨(W0_in (List.mem_of_getElem? (i := 407) (by decide +kernel)) rfl), (W0_in (List.mem_of_getElem? (i := 409) (by decide +kernel)) rfl), (W0_in (List.mem_of_getElem? (i := 7) (by decide +kernel)) rfl)⟩
theorem lkX6_69 : GStat RX6 69 mX6_isSign := ⟨(W0_in (List.mem_of_getElem? (i := 411) (by decide +kernel)) rfl), (W0_in (List.mem_of_getElem? (i := 412) (by decide +kernel)) rfl)⟩
theorem lkX9_96 : GVirt RX9 96 mX1_readInto := ⟨(W0_in (List.mem_of_getElem? (i := 414) (by decide +kernel)) rfl), (W0_in (List.mem_of_getElem? (i := 415) (by decide +kernel)) rfl), (W0_in (List.mem_of_getElem? (i := 416) (by decide +kernel)) rfl)⟩
theorem lkX1_26 : GVirt RX1 26 mX7_begin := ⟨(W0_in (List.mem_of_getElem? (i := 418) (by decide +kernel)) rfl), (W0_in (List.mem_of_getElem? (i := 419) (by decide +kernel)) rfl), (W0_in (List.mem_of_getElem? (i := 420) (by decide +kernel)) rfl)⟩
theorem lkX1_37 : GVirt RX1 37 mX1_part := ⟨(W0_in (List.mem_of_getElem? (i := 422) (by decide +kernel)) rfl), (W0_in (List.mem_of_getElem? (i := 424) (by decide +kernel)) rfl), (W0_in (List.mem_of_getElem? (i := 8) (by decide +kernel)) rfl)⟩
theorem lkX1_41 : GVirt RX1 41 mX1_need := ⟨(W0_in (List.mem_of_getElem? (i := 426) (by decide +kernel)) rfl), (W0_in (List.mem_of_getElem? (i := 428) (by decide +kernel)) rfl), (W0_in (List.mem_of_getElem? (i := 9) (by decide +kernel)) rfl)⟩
theorem lkX1_54 : GVirt RX1 54 mX1_stands := ⟨(W0_in (List.mem_of_getElem? (i := 430) (by decide +kernel)) rfl), (W0_in (List.mem_of_getElem? (i := 432) (by decide +kernel)) rfl), (W0_in (List.mem_of_getElem? (i := 10) (by decide +kernel)) rfl)⟩
theorem lkX1_50 : GVirt RX1 50 mX6_token := ⟨(W0_in (List.mem_of_getElem? (i := 434) (by decide +kernel)) rfl), (W0_in (List.mem_of_getElem? (i := 435) (by decide +kernel)) rfl), (W0_in (List.mem_of_getElem? (i := 436) (by decide +kernel)) rfl)⟩
theorem lkX1_58 : GVirt RX1 58 mX1_fail := ⟨(W0_in (List.mem_of_getElem? (i := 438) (by decide +kernel)) rfl), (W0_in (List.mem_of_getElem? (i := 440) (by decide +kernel)) rfl), (W0_in (List.mem_of_getElem? (i := 11) (by decide +kernel)) rfl)⟩
theorem lkX1_61 : GVirt RX1 61 mX6_start := ⟨(W0_in (List.mem_of_getElem? (i := 442) (by decide +kernel)) rfl), (W0_in (List.mem_of_getElem? (i := 443) (by decide +kernel)) rfl), (W0_in (List.mem_of_getElem? (i := 444) (by decide +kernel)) rfl)⟩
theorem lkX1_44 : GVirt RX1 44 mX1_either := ⟨(W0_in (List.mem_of_getElem? (i := 446) (by decide +kernel)) rfl), (W0_in (List.mem_of_getElem? (i := 448) (by decide +kernel)) rfl), (W0_in (List.mem_of_getElem? (i := 12) (by decide +kernel)) rfl)⟩
theorem lkX1_64 : GVirt RX1 64 mX1_both := ⟨(W0_in (List.mem_of_getElem? (i := 450) (by decide +kernel)) rfl), (W0_in (List.mem_of_getElem? (i := 452) (by decide +kernel)) rfl), (W0_in (List.mem_of_getElem? (i := 13) (by decide +kernel)) rfl)⟩
theorem lkX1_73 : GVirt RX1 73 mX1_negated := ⟨(W0_in (List.mem_of_getElem? (i := 454) (by decide +kernel)) rfl), (W0_in (List.mem_of_getElem? (i := 456) (by decide +kernel)) rfl), (W0_in (List.mem_of_getElem? (i := 14) (by decide +kernel)) rfl)⟩
theorem lkX1_76 : GVirt RX1 76 mX1_opened := ⟨(W0_in (List.mem_of_getElem? (i := 458) (by decide +kernel)) rfl), (W0_in (List.mem_of_getElem? (i := 460) (by decide +kernel)) rfl), (W0_in (List.mem_of_getElem? (i := 15) (by decide +kernel)) rfl)⟩
theorem lkX1_70 : GVirt RX1 70 mX7_add := ⟨(W0_in (List.mem_of_getElem? (i := 462) (by decide +kernel)) rfl), (W0_in (List.mem_of_getElem? (i := 463) (by decide +kernel)) rfl), (W0_in (List.mem_of_getElem? (i := 464) (by decide +kernel)) rfl)⟩
theorem lkX1_79 : GVirt RX1 79 mX1_summed := ⟨(W0_in (List.mem_of_getElem? (i := 466) (by decide +kernel)) rfl), (W0_in (List.mem_of_getElem? (i := 468) (by decide +kernel)) rfl), (W0_in (List.mem_of_getElem? (i := 16) (by decide +kernel)) rfl)⟩
theorem lkX1_82 : GVirt RX1 82 mX1_term := ⟨(W0_in (List.mem_of_getElem? (i := 470) (by decide +kernel)) rfl), (W0_in (List.mem_of_getElem? (i := 472) (by decide +kernel)) rfl), (W0_in (List.mem_of_getElem? (i := 17) (by decide +kernel)) rfl)⟩
theorem lkX1_85 : GVirt RX1 85 mX1_one := ⟨(W0_in (List.mem_of_getElem? (i := 474) (by decide +kernel)) rfl), (W0_in (List.mem_of_getElem? (i := 476) (by decide +kernel)) rfl), (W0_in (List.mem_of_getElem? (i := 18) (by decide +kernel)) rfl)⟩
theorem lkX1_88 : GVirt RX1 88 mX1_numberOrName := ⟨(W0_in (List.mem_of_getElem? (i := 478) (by decide +kernel)) rfl), (W0_in (List.mem_of_getElem? (i := 480) (by decide +kernel)) rfl), (W0_in (List.mem_of_getElem? (i := 19) (by decide +kernel)) rfl)⟩
theorem lkX1_95 : GVirt RX1 95 mX7_addName := ⟨(W0_in (List.mem_of_getElem? (i := 485) (by decide +kernel)) rfl), (W0_in (List.mem_of_getElem? (i := 486) (by decide +kernel)) rfl), (W0_in (List.mem_of_getElem? (i := 487) (by decide +kernel)) rfl)⟩
theorem lkX7_28 : GVirt RX7 28 mX7_add := ⟨(W0_in (List.mem_of_getElem? (i := 489) (by decide +kernel)) rfl), (W0_in (List.mem_of_getElem? (i := 463) (by decide +kernel)) rfl), (W0_in (List.mem_of_getElem? (i := 464) (by decide +kernel)) rfl)⟩
theorem lkX1_67 : GVirt RX1 67 mX1_took := ⟨(W0_in (List.mem_of_getElem? (i := 490) (by decide +kernel)) rfl), (W0_in (List.mem_of_getElem? (i := 492) (by decide +kernel)) rfl), (W0_in (List.mem_of_getElem? (i := 20) (by decide +kernel)) rfl)⟩
theorem lkX1_47 : GVirt RX1 47 mX7_endPart := ⟨(W0_in (List.mem_of_getElem? (i := 494) (by decide +kernel)) rfl), (W0_in (List.mem_of_getElem? (i := 495) (by decide +kernel)) rfl), (W0_in (List.mem_of_getElem? (i := 496) (by decide +kernel)) rfl)⟩
theorem lkX9_100 : GVirt RX9 100 mX6_wipe := ⟨(W0_in (List.mem_of_getElem? (i := 498) (by decide +kernel)) rfl), (W0_in (List.mem_of_getElem? (i := 499) (by decide +kernel)) rfl), (W0_in (List.mem_of_getElem? (i := 500) (by decide +kernel)) rfl)⟩
theorem lkL_21 : GVirt RL 21 mX9_put := ⟨(W0_in (List.mem_of_getElem? (i := 548) (by decide +kernel)) rfl), (W0_in (List.mem_of_getElem? (i := 549) (by decide +kernel)) rfl), (W0_in (List.mem_of_getElem? (i := 550) (by decide +kernel)) rfl)⟩
theorem lkX9_107 : GStat RX9 107 mX9_isPoly := ⟨(W0_in (List.mem_of_getElem? (i := 552) (by decide +kernel)) rfl), (W0_in (List.mem_of_getElem? (i := 553) (by decide +kernel)) rfl)⟩
theorem lkX9_111 : GStat RX9 111 mX9_isWithin := ⟨(W0_in (List.mem_of_getElem? (i := 555) (by decide +kernel)) rfl), (W0_in (List.mem_of_getElem? (i := 483) (by decide +kernel)) rfl)⟩
theorem lkX9_115 : GVirt RX9 115 mX4_get := ⟨(W0_in (List.mem_of_getElem? (i := 556) (by decide +kernel)) rfl), (W0_in (List.mem_of_getElem? (i := 557) (by decide +kernel)) rfl), (W0_in (List.mem_of_getElem? (i := 558) (by decide +kernel)) rfl)⟩
theorem lkX9_119 : GVirt RX9 119 mX3_rest := ⟨(W0_in (List.mem_of_getElem? (i := 560) (by decide +kernel)) rfl), (W0_in (List.mem_of_getElem? (i := 561) (by decide +kernel)) rfl), (W0_in (List.mem_of_getElem? (i := 562) (by decide +kernel)) rfl)⟩
theorem lkX9_123 : GVirt RX9 123 mX4_set := ⟨(W0_in (List.mem_of_getElem? (i := 564) (by decide +kernel)) rfl), (W0_in (List.mem_of_getElem? (i := 565) (by decide +kernel)) rfl), (W0_in (List.mem_of_getElem? (i := 566) (by decide +kernel)) rfl)⟩
theorem lkL_26 : GVirt RL 26 mX9_at := ⟨(W0_in (List.mem_of_getElem? (i := 568) (by decide +kernel)) rfl), (W0_in (List.mem_of_getElem? (i := 569) (by decide +kernel)) rfl), (W0_in (List.mem_of_getElem? (i := 570) (by decide +kernel)) rfl)⟩
theorem lkX9_127 : GVirt RX9 127 mX4_length := ⟨(W0_in (List.mem_of_getElem? (i := 572) (by decide +kernel)) rfl), (W0_in (List.mem_of_getElem? (i := 573) (by decide +kernel)) rfl), (W0_in (List.mem_of_getElem? (i := 574) (by decide +kernel)) rfl)⟩
theorem lkL_31 : GVirt RL 31 mX9_clear := ⟨(W0_in (List.mem_of_getElem? (i := 576) (by decide +kernel)) rfl), (W0_in (List.mem_of_getElem? (i := 577) (by decide +kernel)) rfl), (W0_in (List.mem_of_getElem? (i := 578) (by decide +kernel)) rfl)⟩
theorem lkX9_131 : GVirt RX9 131 mX4_wipe := ⟨(W0_in (List.mem_of_getElem? (i := 580) (by decide +kernel)) rfl), (W0_in (List.mem_of_getElem? (i := 581) (by decide +kernel)) rfl), (W0_in (List.mem_of_getElem? (i := 582) (by decide +kernel)) rfl)⟩
theorem lkL_36 : GVirt RL 36 mX9_sum := ⟨(W0_in (List.mem_of_getElem? (i := 584) (by decide +kernel)) rfl), (W0_in (List.mem_of_getElem? (i := 585) (by decide +kernel)) rfl), (W0_in (List.mem_of_getElem? (i := 586) (by decide +kernel)) rfl)⟩
theorem lkX9_132 : GStat RX9 132 mX9_arePolys := ⟨(W0_in (List.mem_of_getElem? (i := 588) (by decide +kernel)) rfl), (W0_in (List.mem_of_getElem? (i := 589) (by decide +kernel)) rfl)⟩
theorem lkX9_136 : GVirt RX9 136 mX4_copy := ⟨(W0_in (List.mem_of_getElem? (i := 591) (by decide +kernel)) rfl), (W0_in (List.mem_of_getElem? (i := 592) (by decide +kernel)) rfl), (W0_in (List.mem_of_getElem? (i := 593) (by decide +kernel)) rfl)⟩
theorem lkX4_23 : GVirt RX4 23 mX4_get := ⟨(W0_in (List.mem_of_getElem? (i := 595) (by decide +kernel)) rfl), (W0_in (List.mem_of_getElem? (i := 557) (by decide +kernel)) rfl), (W0_in (List.mem_of_getElem? (i := 558) (by decide +kernel)) rfl)⟩
theorem lkX4_27 : GVirt RX4 27 mX4_set := ⟨(W0_in (List.mem_of_getElem? (i := 596) (by decide +kernel)) rfl), (W0_in (List.mem_of_getElem? (i := 565) (by decide +kernel)) rfl), (W0_in (List.mem_of_getElem? (i := 566) (by decide +kernel)) rfl)⟩
theorem lkX9_140 : GVirt RX9 140 mX0_addMultiple := ⟨(W0_in (List.mem_of_getElem? (i := 597) (by decide +kernel)) rfl), (W0_in (List.mem_of_getElem? (i := 598) (by decide +kernel)) rfl), (W0_in (List.mem_of_getElem? (i := 599) (by decide +kernel)) rfl)⟩
theorem lkX0_45 : GVirt RX0 45 mX4_length := ⟨(W0_in (List.mem_of_getElem? (i := 601) (by decide +kernel)) rfl), (W0_in (List.mem_of_getElem? (i := 573) (by decide +kernel)) rfl), (W0_in (List.mem_of_getElem? (i := 574) (by decide +kernel)) rfl)⟩
theorem lkX0_49 : GVirt RX0 49 mX4_get := ⟨(W0_in (List.mem_of_getElem? (i := 602) (by decide +kernel)) rfl), (W0_in (List.mem_of_getElem? (i := 557) (by decide +kernel)) rfl), (W0_in (List.mem_of_getElem? (i := 558) (by decide +kernel)) rfl)⟩
theorem lkX0_53 : GVirt RX0 53 mX3_rest := ⟨(W0_in (List.mem_of_getElem? (i := 603) (by decide +kernel)) rfl), (W0_in (List.mem_of_getElem? (i := 561) (by decide +kernel)) rfl), (W0_in (List.mem_of_getElem? (i := 562) (by decide +kernel)) rfl)⟩
theorem lkX0_59 : GVirt RX0 59 mX4_set := ⟨(W0_in (List.mem_of_getElem? (i := 604) (by decide +kernel)) rfl), (W0_in (List.mem_of_getElem? (i := 565) (by decide +kernel)) rfl), (W0_in (List.mem_of_getElem? (i := 566) (by decide +kernel)) rfl)⟩
theorem lkX9_144 : GVirt RX9 144 mX9_become := ⟨(W0_in (List.mem_of_getElem? (i := 605) (by decide +kernel)) rfl), (W0_in (List.mem_of_getElem? (i := 607) (by decide +kernel)) rfl), (W0_in (List.mem_of_getElem? (i := 21) (by decide +kernel)) rfl)⟩
theorem lkL_41 : GVirt RL 41 mX9_way := ⟨(W0_in (List.mem_of_getElem? (i := 609) (by decide +kernel)) rfl), (W0_in (List.mem_of_getElem? (i := 610) (by decide +kernel)) rfl), (W0_in (List.mem_of_getElem? (i := 611) (by decide +kernel)) rfl)⟩
theorem lkX9_151 : GSpec RX9 151 mX8_init := ⟨(W0_in (List.mem_of_getElem? (i := 614) (by decide +kernel)) rfl), (W0_in (List.mem_of_getElem? (i := 615) (by decide +kernel)) rfl), rfl, rfl⟩
theorem lkX8_3 : Cond.methodLink RX8 3 objectInit ∈ W0 := (W0_in (List.mem_of_getElem? (i := 617) (by decide +kernel)) rfl)
theorem lkX8_22 : GVirt RX8 22 mX8_parted := ⟨(W0_in (List.mem_of_getElem? (i := 618) (by decide +kernel)) rfl), (W0_in (List.mem_of_getElem? (i := 620) (by decide +kernel)) rfl), (W0_in (List.mem_of_getElem? (i := 22) (by decide +kernel)) rfl)⟩
theorem lkX8_44 : GVirt RX8 44 mX8_countOfSize := ⟨(W0_in (List.mem_of_getElem? (i := 622) (by decide +kernel)) rfl), (W0_in (List.mem_of_getElem? (i := 624) (by decide +kernel)) rfl), (W0_in (List.mem_of_getElem? (i := 23) (by decide +kernel)) rfl)⟩
theorem lkL_45 : GVirt RL 45 mX9_times := ⟨(W0_in (List.mem_of_getElem? (i := 637) (by decide +kernel)) rfl), (W0_in (List.mem_of_getElem? (i := 638) (by decide +kernel)) rfl), (W0_in (List.mem_of_getElem? (i := 639) (by decide +kernel)) rfl)⟩
theorem lkX9_153 : GVirt RX9 153 mX9_isWay := ⟨(W0_in (List.mem_of_getElem? (i := 641) (by decide +kernel)) rfl), (W0_in (List.mem_of_getElem? (i := 643) (by decide +kernel)) rfl), (W0_in (List.mem_of_getElem? (i := 24) (by decide +kernel)) rfl)⟩
theorem lkX9_156 : GVirt RX9 156 mX9_multiply := ⟨(W0_in (List.mem_of_getElem? (i := 645) (by decide +kernel)) rfl), (W0_in (List.mem_of_getElem? (i := 647) (by decide +kernel)) rfl), (W0_in (List.mem_of_getElem? (i := 25) (by decide +kernel)) rfl)⟩
theorem lkX9_160 : GVirt RX9 160 mX9_countFor := ⟨(W0_in (List.mem_of_getElem? (i := 649) (by decide +kernel)) rfl), (W0_in (List.mem_of_getElem? (i := 651) (by decide +kernel)) rfl), (W0_in (List.mem_of_getElem? (i := 26) (by decide +kernel)) rfl)⟩
theorem lkX9_276 : GVirt RX9 276 mX4_isLike := ⟨(W0_in (List.mem_of_getElem? (i := 653) (by decide +kernel)) rfl), (W0_in (List.mem_of_getElem? (i := 654) (by decide +kernel)) rfl), (W0_in (List.mem_of_getElem? (i := 655) (by decide +kernel)) rfl)⟩
theorem lkX4_31 : GVirt RX4 31 mX4_length := ⟨(W0_in (List.mem_of_getElem? (i := 657) (by decide +kernel)) rfl), (W0_in (List.mem_of_getElem? (i := 573) (by decide +kernel)) rfl), (W0_in (List.mem_of_getElem? (i := 574) (by decide +kernel)) rfl)⟩
theorem lkX9_280 : GVirt RX9 280 mX8_countOf := ⟨(W0_in (List.mem_of_getElem? (i := 658) (by decide +kernel)) rfl), (W0_in (List.mem_of_getElem? (i := 659) (by decide +kernel)) rfl), (W0_in (List.mem_of_getElem? (i := 660) (by decide +kernel)) rfl)⟩
theorem lkX8_35 : GStat RX8 35 mX8_turned := ⟨(W0_in (List.mem_of_getElem? (i := 662) (by decide +kernel)) rfl), (W0_in (List.mem_of_getElem? (i := 663) (by decide +kernel)) rfl)⟩
theorem lkX8_39 : GStat RX8 39 mJ9_max_7cf53 := ⟨(W0_in (List.mem_of_getElem? (i := 665) (by decide +kernel)) rfl), (W0_in (List.mem_of_getElem? (i := 108) (by decide +kernel)) rfl)⟩
theorem lkX9_284 : GVirt RX9 284 mX0_multiplied := ⟨(W0_in (List.mem_of_getElem? (i := 666) (by decide +kernel)) rfl), (W0_in (List.mem_of_getElem? (i := 667) (by decide +kernel)) rfl), (W0_in (List.mem_of_getElem? (i := 668) (by decide +kernel)) rfl)⟩
theorem lkX0_63 : GVirt RX0 63 mX4_wipe := ⟨(W0_in (List.mem_of_getElem? (i := 670) (by decide +kernel)) rfl), (W0_in (List.mem_of_getElem? (i := 581) (by decide +kernel)) rfl), (W0_in (List.mem_of_getElem? (i := 582) (by decide +kernel)) rfl)⟩
theorem lkX0_66 : GStat RX0 66 mX0_pairs := ⟨(W0_in (List.mem_of_getElem? (i := 671) (by decide +kernel)) rfl), (W0_in (List.mem_of_getElem? (i := 672) (by decide +kernel)) rfl)⟩
theorem lkX0_70 : GStat RX0 70 mJ9_min_7cf53 := ⟨(W0_in (List.mem_of_getElem? (i := 674) (by decide +kernel)) rfl), (W0_in (List.mem_of_getElem? (i := 675) (by decide +kernel)) rfl)⟩
theorem lkX0_76 : GStat RX0 76 mJ9_max_7cf53 := ⟨(W0_in (List.mem_of_getElem? (i := 677) (by decide +kernel)) rfl), (W0_in (List.mem_of_getElem? (i := 108) (by decide +kernel)) rfl)⟩
theorem lkL_49 : GVirt RL 49 mX9_cost := ⟨(W0_in (List.mem_of_getElem? (i := 678) (by decide +kernel)) rfl), (W0_in (List.mem_of_getElem? (i := 679) (by decide +kernel)) rfl), (W0_in (List.mem_of_getElem? (i := 680) (by decide +kernel)) rfl)⟩
theorem lkL_53 : GVirt RL 53 mX9_plan := ⟨(W0_in (List.mem_of_getElem? (i := 682) (by decide +kernel)) rfl), (W0_in (List.mem_of_getElem? (i := 683) (by decide +kernel)) rfl), (W0_in (List.mem_of_getElem? (i := 684) (by decide +kernel)) rfl)⟩
theorem lkX9_164 : GVirt RX9 164 mX9_bestWay := ⟨(W0_in (List.mem_of_getElem? (i := 686) (by decide +kernel)) rfl), (W0_in (List.mem_of_getElem? (i := 688) (by decide +kernel)) rfl), (W0_in (List.mem_of_getElem? (i := 27) (by decide +kernel)) rfl)⟩
theorem lkX9_180 : GVirt RX9 180 mX9_ruleFor := ⟨(W0_in (List.mem_of_getElem? (i := 690) (by decide +kernel)) rfl), (W0_in (List.mem_of_getElem? (i := 692) (by decide +kernel)) rfl), (W0_in (List.mem_of_getElem? (i := 28) (by decide +kernel)) rfl)⟩
theorem lkX9_287 : GStat RX9 287 mJ9_max_7cf53 := ⟨(W0_in (List.mem_of_getElem? (i := 694) (by decide +kernel)) rfl), (W0_in (List.mem_of_getElem? (i := 108) (by decide +kernel)) rfl)⟩
theorem lkX9_273 : GVirt RX9 273 mX8_cut := ⟨(W0_in (List.mem_of_getElem? (i := 695) (by decide +kernel)) rfl), (W0_in (List.mem_of_getElem? (i := 696) (by decide +kernel)) rfl), (W0_in (List.mem_of_getElem? (i := 697) (by decide +kernel)) rfl)⟩
theorem lkX9_292 : GVirt RX9 292 mX8_kind := ⟨(W0_in (List.mem_of_getElem? (i := 699) (by decide +kernel)) rfl), (W0_in (List.mem_of_getElem? (i := 700) (by decide +kernel)) rfl), (W0_in (List.mem_of_getElem? (i := 701) (by decide +kernel)) rfl)⟩
theorem lkX9_295 : GVirt RX9 295 mX8_part := ⟨(W0_in (List.mem_of_getElem? (i := 703) (by decide +kernel)) rfl), (W0_in (List.mem_of_getElem? (i := 704) (by decide +kernel)) rfl), (W0_in (List.mem_of_getElem? (i := 705) (by decide +kernel)) rfl)⟩
theorem lkX8_31 : GVirt RX8 31 mX8_isUnder := ⟨(W0_in (List.mem_of_getElem? (i := 707) (by decide +kernel)) rfl), (W0_in (List.mem_of_getElem? (i := 708) (by decide +kernel)) rfl), (W0_in (List.mem_of_getElem? (i := 709) (by decide +kernel)) rfl)⟩
theorem lkX8_26 : GStat RX8 26 mX8_above := ⟨(W0_in (List.mem_of_getElem? (i := 711) (by decide +kernel)) rfl), (W0_in (List.mem_of_getElem? (i := 712) (by decide +kernel)) rfl)⟩
theorem lkX9_298 : GVirt RX9 298 mX7_worth := ⟨(W0_in (List.mem_of_getElem? (i := 714) (by decide +kernel)) rfl), (W0_in (List.mem_of_getElem? (i := 715) (by decide +kernel)) rfl), (W0_in (List.mem_of_getElem? (i := 716) (by decide +kernel)) rfl)⟩
theorem lkX7_39 : GStat RX7 39 mJ9_min_7cf53 := ⟨(W0_in (List.mem_of_getElem? (i := 719) (by decide +kernel)) rfl), (W0_in (List.mem_of_getElem? (i := 675) (by decide +kernel)) rfl)⟩
theorem lkX7_45 : GVirt RX7 45 mX7_doStep := ⟨(W0_in (List.mem_of_getElem? (i := 720) (by decide +kernel)) rfl), (W0_in (List.mem_of_getElem? (i := 722) (by decide +kernel)) rfl), (W0_in (List.mem_of_getElem? (i := 29) (by decide +kernel)) rfl)⟩
theorem lkX7_53 : GVirt RX7 53 mX7_push := ⟨(W0_in (List.mem_of_getElem? (i := 724) (by decide +kernel)) rfl), (W0_in (List.mem_of_getElem? (i := 726) (by decide +kernel)) rfl), (W0_in (List.mem_of_getElem? (i := 30) (by decide +kernel)) rfl)⟩
theorem lkX7_49 : GVirt RX7 49 mX7_pop := ⟨(W0_in (List.mem_of_getElem? (i := 728) (by decide +kernel)) rfl), (W0_in (List.mem_of_getElem? (i := 730) (by decide +kernel)) rfl), (W0_in (List.mem_of_getElem? (i := 31) (by decide +kernel)) rfl)⟩
theorem lkX7_56 : GStat RX7 56 mX7_ofTwo := ⟨(W0_in (List.mem_of_getElem? (i := 732) (by decide +kernel)) rfl), (W0_in (List.mem_of_getElem? (i := 733) (by decide +kernel)) rfl)⟩
theorem lkL_57 : GVirt RL 57 mX9_planned := ⟨(W0_in (List.mem_of_getElem? (i := 735) (by decide +kernel)) rfl), (W0_in (List.mem_of_getElem? (i := 736) (by decide +kernel)) rfl), (W0_in (List.mem_of_getElem? (i := 737) (by decide +kernel)) rfl)⟩
theorem lkL_63 : GVirt RL 63 mX9_feed := ⟨(W0_in (List.mem_of_getElem? (i := 739) (by decide +kernel)) rfl), (W0_in (List.mem_of_getElem? (i := 740) (by decide +kernel)) rfl), (W0_in (List.mem_of_getElem? (i := 741) (by decide +kernel)) rfl)⟩
theorem lkX9_168 : GVirt RX9 168 mX6_size := ⟨(W0_in (List.mem_of_getElem? (i := 743) (by decide +kernel)) rfl), (W0_in (List.mem_of_getElem? (i := 744) (by decide +kernel)) rfl), (W0_in (List.mem_of_getElem? (i := 745) (by decide +kernel)) rfl)⟩
theorem lkX9_171 : GVirt RX9 171 mX6_append := ⟨(W0_in (List.mem_of_getElem? (i := 747) (by decide +kernel)) rfl), (W0_in (List.mem_of_getElem? (i := 748) (by decide +kernel)) rfl), (W0_in (List.mem_of_getElem? (i := 749) (by decide +kernel)) rfl)⟩
theorem lkL_68 : GVirt RL 68 mX9_text := ⟨(W0_in (List.mem_of_getElem? (i := 751) (by decide +kernel)) rfl), (W0_in (List.mem_of_getElem? (i := 752) (by decide +kernel)) rfl), (W0_in (List.mem_of_getElem? (i := 753) (by decide +kernel)) rfl)⟩
theorem lkL_73 : GVirt RL 73 mX9_force := ⟨(W0_in (List.mem_of_getElem? (i := 755) (by decide +kernel)) rfl), (W0_in (List.mem_of_getElem? (i := 756) (by decide +kernel)) rfl), (W0_in (List.mem_of_getElem? (i := 757) (by decide +kernel)) rfl)⟩
theorem lkL_77 : GVirt RL 77 mX9_says := ⟨(W0_in (List.mem_of_getElem? (i := 759) (by decide +kernel)) rfl), (W0_in (List.mem_of_getElem? (i := 760) (by decide +kernel)) rfl), (W0_in (List.mem_of_getElem? (i := 761) (by decide +kernel)) rfl)⟩
theorem lkL_82 : GVirt RL 82 mX9_divide := ⟨(W0_in (List.mem_of_getElem? (i := 764) (by decide +kernel)) rfl), (W0_in (List.mem_of_getElem? (i := 765) (by decide +kernel)) rfl), (W0_in (List.mem_of_getElem? (i := 766) (by decide +kernel)) rfl)⟩
theorem lkX9_183 : GVirt RX9 183 mX0_reduce := ⟨(W0_in (List.mem_of_getElem? (i := 768) (by decide +kernel)) rfl), (W0_in (List.mem_of_getElem? (i := 769) (by decide +kernel)) rfl), (W0_in (List.mem_of_getElem? (i := 770) (by decide +kernel)) rfl)⟩
theorem lkX0_79 : GVirt RX0 79 mX4_lead := ⟨(W0_in (List.mem_of_getElem? (i := 772) (by decide +kernel)) rfl), (W0_in (List.mem_of_getElem? (i := 773) (by decide +kernel)) rfl), (W0_in (List.mem_of_getElem? (i := 774) (by decide +kernel)) rfl)⟩
theorem lkX0_82 : GVirt RX0 82 mX3_inverse := ⟨(W0_in (List.mem_of_getElem? (i := 776) (by decide +kernel)) rfl), (W0_in (List.mem_of_getElem? (i := 777) (by decide +kernel)) rfl), (W0_in (List.mem_of_getElem? (i := 778) (by decide +kernel)) rfl)⟩
theorem lkX3_26 : GVirt RX3 26 mX3_raised := ⟨(W0_in (List.mem_of_getElem? (i := 780) (by decide +kernel)) rfl), (W0_in (List.mem_of_getElem? (i := 781) (by decide +kernel)) rfl), (W0_in (List.mem_of_getElem? (i := 782) (by decide +kernel)) rfl)⟩
theorem lkX3_23 : GVirt RX3 23 mX3_product := ⟨(W0_in (List.mem_of_getElem? (i := 784) (by decide +kernel)) rfl), (W0_in (List.mem_of_getElem? (i := 785) (by decide +kernel)) rfl), (W0_in (List.mem_of_getElem? (i := 786) (by decide +kernel)) rfl)⟩
theorem lkX0_85 : GVirt RX0 85 mX3_product := ⟨(W0_in (List.mem_of_getElem? (i := 788) (by decide +kernel)) rfl), (W0_in (List.mem_of_getElem? (i := 785) (by decide +kernel)) rfl), (W0_in (List.mem_of_getElem? (i := 786) (by decide +kernel)) rfl)⟩
theorem lkX0_87 : GVirt RX0 87 mX0_addMultiple := ⟨(W0_in (List.mem_of_getElem? (i := 789) (by decide +kernel)) rfl), (W0_in (List.mem_of_getElem? (i := 598) (by decide +kernel)) rfl), (W0_in (List.mem_of_getElem? (i := 599) (by decide +kernel)) rfl)⟩
theorem lkL_87 : GVirt RL 87 mX9_gcd := ⟨(W0_in (List.mem_of_getElem? (i := 790) (by decide +kernel)) rfl), (W0_in (List.mem_of_getElem? (i := 791) (by decide +kernel)) rfl), (W0_in (List.mem_of_getElem? (i := 792) (by decide +kernel)) rfl)⟩
theorem lkX9_187 : GVirt RX9 187 mX0_commonDivisor := ⟨(W0_in (List.mem_of_getElem? (i := 794) (by decide +kernel)) rfl), (W0_in (List.mem_of_getElem? (i := 795) (by decide +kernel)) rfl), (W0_in (List.mem_of_getElem? (i := 796) (by decide +kernel)) rfl)⟩
theorem lkX0_102 : GVirt RX0 102 mX0_euclid := ⟨(W0_in (List.mem_of_getElem? (i := 798) (by decide +kernel)) rfl), (W0_in (List.mem_of_getElem? (i := 799) (by decide +kernel)) rfl), (W0_in (List.mem_of_getElem? (i := 800) (by decide +kernel)) rfl)⟩
theorem lkX0_91 : GVirt RX0 91 mX4_copy := ⟨(W0_in (List.mem_of_getElem? (i := 802) (by decide +kernel)) rfl), (W0_in (List.mem_of_getElem? (i := 592) (by decide +kernel)) rfl), (W0_in (List.mem_of_getElem? (i := 593) (by decide +kernel)) rfl)⟩
theorem lkX0_95 : GVirt RX0 95 mX0_reduce := ⟨(W0_in (List.mem_of_getElem? (i := 803) (by decide +kernel)) rfl), (W0_in (List.mem_of_getElem? (i := 769) (by decide +kernel)) rfl), (W0_in (List.mem_of_getElem? (i := 770) (by decide +kernel)) rfl)⟩
theorem lkX0_99 : GVirt RX0 99 mX0_multiplied := ⟨(W0_in (List.mem_of_getElem? (i := 804) (by decide +kernel)) rfl), (W0_in (List.mem_of_getElem? (i := 667) (by decide +kernel)) rfl), (W0_in (List.mem_of_getElem? (i := 668) (by decide +kernel)) rfl)⟩
theorem lkL_91 : GVirt RL 91 mX9_cofactor := ⟨(W0_in (List.mem_of_getElem? (i := 805) (by decide +kernel)) rfl), (W0_in (List.mem_of_getElem? (i := 806) (by decide +kernel)) rfl), (W0_in (List.mem_of_getElem? (i := 807) (by decide +kernel)) rfl)⟩
theorem lkX9_190 : GVirt RX9 190 mX0_leastCofactor := ⟨(W0_in (List.mem_of_getElem? (i := 809) (by decide +kernel)) rfl), (W0_in (List.mem_of_getElem? (i := 810) (by decide +kernel)) rfl), (W0_in (List.mem_of_getElem? (i := 811) (by decide +kernel)) rfl)⟩
theorem lkL_95 : GVirt RL 95 mX9_compose := ⟨(W0_in (List.mem_of_getElem? (i := 813) (by decide +kernel)) rfl), (W0_in (List.mem_of_getElem? (i := 814) (by decide +kernel)) rfl), (W0_in (List.mem_of_getElem? (i := 815) (by decide +kernel)) rfl)⟩
theorem lkX9_193 : GVirt RX9 193 mX0_composed := ⟨(W0_in (List.mem_of_getElem? (i := 817) (by decide +kernel)) rfl), (W0_in (List.mem_of_getElem? (i := 818) (by decide +kernel)) rfl), (W0_in (List.mem_of_getElem? (i := 819) (by decide +kernel)) rfl)⟩
theorem lkL_99 : GVirt RL 99 mX9_move := ⟨(W0_in (List.mem_of_getElem? (i := 821) (by decide +kernel)) rfl), (W0_in (List.mem_of_getElem? (i := 822) (by decide +kernel)) rfl), (W0_in (List.mem_of_getElem? (i := 823) (by decide +kernel)) rfl)⟩
theorem lkX9_196 : GVirt RX9 196 mX0_moved := ⟨(W0_in (List.mem_of_getElem? (i := 825) (by decide +kernel)) rfl), (W0_in (List.mem_of_getElem? (i := 826) (by decide +kernel)) rfl), (W0_in (List.mem_of_getElem? (i := 827) (by decide +kernel)) rfl)⟩
theorem lkX0_106 : GVirt RX0 106 mX0_partMoved := ⟨(W0_in (List.mem_of_getElem? (i := 829) (by decide +kernel)) rfl), (W0_in (List.mem_of_getElem? (i := 830) (by decide +kernel)) rfl), (W0_in (List.mem_of_getElem? (i := 831) (by decide +kernel)) rfl)⟩
theorem lkL_103 : GVirt RL 103 mX9_root := ⟨(W0_in (List.mem_of_getElem? (i := 833) (by decide +kernel)) rfl), (W0_in (List.mem_of_getElem? (i := 834) (by decide +kernel)) rfl), (W0_in (List.mem_of_getElem? (i := 835) (by decide +kernel)) rfl)⟩
theorem lkX9_200 : GVirt RX9 200 mX0_seekRoots := ⟨(W0_in (List.mem_of_getElem? (i := 837) (by decide +kernel)) rfl), (W0_in (List.mem_of_getElem? (i := 838) (by decide +kernel)) rfl), (W0_in (List.mem_of_getElem? (i := 839) (by decide +kernel)) rfl)⟩
theorem lkX0_110 : GVirt RX0 110 mX3_prime := ⟨(W0_in (List.mem_of_getElem? (i := 841) (by decide +kernel)) rfl), (W0_in (List.mem_of_getElem? (i := 842) (by decide +kernel)) rfl), (W0_in (List.mem_of_getElem? (i := 843) (by decide +kernel)) rfl)⟩
theorem lkX0_113 : GVirt RX0 113 mX0_lineAt := ⟨(W0_in (List.mem_of_getElem? (i := 845) (by decide +kernel)) rfl), (W0_in (List.mem_of_getElem? (i := 846) (by decide +kernel)) rfl), (W0_in (List.mem_of_getElem? (i := 847) (by decide +kernel)) rfl)⟩
theorem lkX9_204 : GVirt RX9 204 mX0_soughtRoot := ⟨(W0_in (List.mem_of_getElem? (i := 849) (by decide +kernel)) rfl), (W0_in (List.mem_of_getElem? (i := 850) (by decide +kernel)) rfl), (W0_in (List.mem_of_getElem? (i := 851) (by decide +kernel)) rfl)⟩
theorem lkX0_117 : GVirt RX0 117 mX0_evaluated := ⟨(W0_in (List.mem_of_getElem? (i := 853) (by decide +kernel)) rfl), (W0_in (List.mem_of_getElem? (i := 854) (by decide +kernel)) rfl), (W0_in (List.mem_of_getElem? (i := 855) (by decide +kernel)) rfl)⟩
theorem lkL_107 : GVirt RL 107 mX9_order := ⟨(W0_in (List.mem_of_getElem? (i := 857) (by decide +kernel)) rfl), (W0_in (List.mem_of_getElem? (i := 858) (by decide +kernel)) rfl), (W0_in (List.mem_of_getElem? (i := 859) (by decide +kernel)) rfl)⟩
theorem lkL_111 : GVirt RL 111 mX9_place := ⟨(W0_in (List.mem_of_getElem? (i := 861) (by decide +kernel)) rfl), (W0_in (List.mem_of_getElem? (i := 862) (by decide +kernel)) rfl), (W0_in (List.mem_of_getElem? (i := 863) (by decide +kernel)) rfl)⟩
theorem lkX9_207 : GVirt RX9 207 mX2_size := ⟨(W0_in (List.mem_of_getElem? (i := 865) (by decide +kernel)) rfl), (W0_in (List.mem_of_getElem? (i := 866) (by decide +kernel)) rfl), (W0_in (List.mem_of_getElem? (i := 867) (by decide +kernel)) rfl)⟩
theorem lkX9_208 : GVirt RX9 208 mX2_append := ⟨(W0_in (List.mem_of_getElem? (i := 869) (by decide +kernel)) rfl), (W0_in (List.mem_of_getElem? (i := 870) (by decide +kernel)) rfl), (W0_in (List.mem_of_getElem? (i := 871) (by decide +kernel)) rfl)⟩
theorem lkL_115 : GVirt RL 115 mX9_leave := ⟨(W0_in (List.mem_of_getElem? (i := 873) (by decide +kernel)) rfl), (W0_in (List.mem_of_getElem? (i := 874) (by decide +kernel)) rfl), (W0_in (List.mem_of_getElem? (i := 875) (by decide +kernel)) rfl)⟩
theorem lkX9_210 : GVirt RX9 210 mX2_wipe := ⟨(W0_in (List.mem_of_getElem? (i := 877) (by decide +kernel)) rfl), (W0_in (List.mem_of_getElem? (i := 878) (by decide +kernel)) rfl), (W0_in (List.mem_of_getElem? (i := 879) (by decide +kernel)) rfl)⟩
theorem lkL_119 : GVirt RL 119 mX9_see := ⟨(W0_in (List.mem_of_getElem? (i := 881) (by decide +kernel)) rfl), (W0_in (List.mem_of_getElem? (i := 882) (by decide +kernel)) rfl), (W0_in (List.mem_of_getElem? (i := 883) (by decide +kernel)) rfl)⟩
theorem lkX9_211 : GVirt RX9 211 mX9_isPlace := ⟨(W0_in (List.mem_of_getElem? (i := 885) (by decide +kernel)) rfl), (W0_in (List.mem_of_getElem? (i := 887) (by decide +kernel)) rfl), (W0_in (List.mem_of_getElem? (i := 32) (by decide +kernel)) rfl)⟩
theorem lkX9_214 : GVirt RX9 214 mX2_valueOf := ⟨(W0_in (List.mem_of_getElem? (i := 889) (by decide +kernel)) rfl), (W0_in (List.mem_of_getElem? (i := 890) (by decide +kernel)) rfl), (W0_in (List.mem_of_getElem? (i := 891) (by decide +kernel)) rfl)⟩
theorem lkX9_217 : GVirt RX9 217 mX2_give := ⟨(W0_in (List.mem_of_getElem? (i := 894) (by decide +kernel)) rfl), (W0_in (List.mem_of_getElem? (i := 895) (by decide +kernel)) rfl), (W0_in (List.mem_of_getElem? (i := 896) (by decide +kernel)) rfl)⟩
theorem lkL_123 : GVirt RL 123 mX9_told := ⟨(W0_in (List.mem_of_getElem? (i := 898) (by decide +kernel)) rfl), (W0_in (List.mem_of_getElem? (i := 899) (by decide +kernel)) rfl), (W0_in (List.mem_of_getElem? (i := 900) (by decide +kernel)) rfl)⟩
theorem lkX9_220 : GVirt RX9 220 mX2_numberOf := ⟨(W0_in (List.mem_of_getElem? (i := 902) (by decide +kernel)) rfl), (W0_in (List.mem_of_getElem? (i := 903) (by decide +kernel)) rfl), (W0_in (List.mem_of_getElem? (i := 904) (by decide +kernel)) rfl)⟩
theorem lkL_127 : GVirt RL 127 mX9_value := ⟨(W0_in (List.mem_of_getElem? (i := 906) (by decide +kernel)) rfl), (W0_in (List.mem_of_getElem? (i := 907) (by decide +kernel)) rfl), (W0_in (List.mem_of_getElem? (i := 908) (by decide +kernel)) rfl)⟩
theorem lkX9_223 : GVirt RX9 223 mX0_evaluated := ⟨(W0_in (List.mem_of_getElem? (i := 910) (by decide +kernel)) rfl), (W0_in (List.mem_of_getElem? (i := 854) (by decide +kernel)) rfl), (W0_in (List.mem_of_getElem? (i := 855) (by decide +kernel)) rfl)⟩
theorem lkL_131 : GVirt RL 131 mX9_look := ⟨(W0_in (List.mem_of_getElem? (i := 911) (by decide +kernel)) rfl), (W0_in (List.mem_of_getElem? (i := 912) (by decide +kernel)) rfl), (W0_in (List.mem_of_getElem? (i := 913) (by decide +kernel)) rfl)⟩
theorem lkL_135 : GVirt RL 135 mX9_fill := ⟨(W0_in (List.mem_of_getElem? (i := 915) (by decide +kernel)) rfl), (W0_in (List.mem_of_getElem? (i := 916) (by decide +kernel)) rfl), (W0_in (List.mem_of_getElem? (i := 917) (by decide +kernel)) rfl)⟩
theorem lkX9_227 : GVirt RX9 227 mX2_interpolated := ⟨(W0_in (List.mem_of_getElem? (i := 919) (by decide +kernel)) rfl), (W0_in (List.mem_of_getElem? (i := 920) (by decide +kernel)) rfl), (W0_in (List.mem_of_getElem? (i := 921) (by decide +kernel)) rfl)⟩
theorem lkX2_62 : GVirt RX2 62 mX4_wipe := ⟨(W0_in (List.mem_of_getElem? (i := 923) (by decide +kernel)) rfl), (W0_in (List.mem_of_getElem? (i := 581) (by decide +kernel)) rfl), (W0_in (List.mem_of_getElem? (i := 582) (by decide +kernel)) rfl)⟩
theorem lkX2_65 : GVirt RX2 65 mX4_set := ⟨(W0_in (List.mem_of_getElem? (i := 924) (by decide +kernel)) rfl), (W0_in (List.mem_of_getElem? (i := 565) (by decide +kernel)) rfl), (W0_in (List.mem_of_getElem? (i := 566) (by decide +kernel)) rfl)⟩
theorem lkX2_55 : GVirt RX2 55 mX2_numberOf := ⟨(W0_in (List.mem_of_getElem? (i := 925) (by decide +kernel)) rfl), (W0_in (List.mem_of_getElem? (i := 903) (by decide +kernel)) rfl), (W0_in (List.mem_of_getElem? (i := 904) (by decide +kernel)) rfl)⟩
theorem lkX2_59 : GVirt RX2 59 mX2_timesAhead := ⟨(W0_in (List.mem_of_getElem? (i := 926) (by decide +kernel)) rfl), (W0_in (List.mem_of_getElem? (i := 928) (by decide +kernel)) rfl), (W0_in (List.mem_of_getElem? (i := 33) (by decide +kernel)) rfl)⟩
theorem lkX2_69 : GVirt RX2 69 mX2_valueOf := ⟨(W0_in (List.mem_of_getElem? (i := 930) (by decide +kernel)) rfl), (W0_in (List.mem_of_getElem? (i := 890) (by decide +kernel)) rfl), (W0_in (List.mem_of_getElem? (i := 891) (by decide +kernel)) rfl)⟩
theorem lkX2_72 : GVirt RX2 72 mX0_partMoved := ⟨(W0_in (List.mem_of_getElem? (i := 931) (by decide +kernel)) rfl), (W0_in (List.mem_of_getElem? (i := 830) (by decide +kernel)) rfl), (W0_in (List.mem_of_getElem? (i := 831) (by decide +kernel)) rfl)⟩
theorem lkX2_78 : GVirt RX2 78 mX4_get := ⟨(W0_in (List.mem_of_getElem? (i := 932) (by decide +kernel)) rfl), (W0_in (List.mem_of_getElem? (i := 557) (by decide +kernel)) rfl), (W0_in (List.mem_of_getElem? (i := 558) (by decide +kernel)) rfl)⟩
theorem lkX2_81 : GVirt RX2 81 mX3_rest := ⟨(W0_in (List.mem_of_getElem? (i := 933) (by decide +kernel)) rfl), (W0_in (List.mem_of_getElem? (i := 561) (by decide +kernel)) rfl), (W0_in (List.mem_of_getElem? (i := 562) (by decide +kernel)) rfl)⟩
theorem lkX2_87 : GVirt RX2 87 mX3_inverse := ⟨(W0_in (List.mem_of_getElem? (i := 934) (by decide +kernel)) rfl), (W0_in (List.mem_of_getElem? (i := 777) (by decide +kernel)) rfl), (W0_in (List.mem_of_getElem? (i := 778) (by decide +kernel)) rfl)⟩
theorem lkX2_90 : GVirt RX2 90 mX3_product := ⟨(W0_in (List.mem_of_getElem? (i := 935) (by decide +kernel)) rfl), (W0_in (List.mem_of_getElem? (i := 785) (by decide +kernel)) rfl), (W0_in (List.mem_of_getElem? (i := 786) (by decide +kernel)) rfl)⟩
theorem lkX2_94 : GVirt RX2 94 mX0_addMultiple := ⟨(W0_in (List.mem_of_getElem? (i := 936) (by decide +kernel)) rfl), (W0_in (List.mem_of_getElem? (i := 598) (by decide +kernel)) rfl), (W0_in (List.mem_of_getElem? (i := 599) (by decide +kernel)) rfl)⟩
theorem lkX2_98 : GVirt RX2 98 mX0_lineAt := ⟨(W0_in (List.mem_of_getElem? (i := 937) (by decide +kernel)) rfl), (W0_in (List.mem_of_getElem? (i := 846) (by decide +kernel)) rfl), (W0_in (List.mem_of_getElem? (i := 847) (by decide +kernel)) rfl)⟩
theorem lkX2_102 : GVirt RX2 102 mX0_multiplied := ⟨(W0_in (List.mem_of_getElem? (i := 938) (by decide +kernel)) rfl), (W0_in (List.mem_of_getElem? (i := 667) (by decide +kernel)) rfl), (W0_in (List.mem_of_getElem? (i := 668) (by decide +kernel)) rfl)⟩
theorem lkX2_106 : GVirt RX2 106 mX4_copy := ⟨(W0_in (List.mem_of_getElem? (i := 939) (by decide +kernel)) rfl), (W0_in (List.mem_of_getElem? (i := 592) (by decide +kernel)) rfl), (W0_in (List.mem_of_getElem? (i := 593) (by decide +kernel)) rfl)⟩
theorem lkL_139 : GVirt RL 139 mX9_right := ⟨(W0_in (List.mem_of_getElem? (i := 940) (by decide +kernel)) rfl), (W0_in (List.mem_of_getElem? (i := 941) (by decide +kernel)) rfl), (W0_in (List.mem_of_getElem? (i := 942) (by decide +kernel)) rfl)⟩
theorem lkX9_231 : GVirt RX9 231 mX2_hasAlike := ⟨(W0_in (List.mem_of_getElem? (i := 944) (by decide +kernel)) rfl), (W0_in (List.mem_of_getElem? (i := 945) (by decide +kernel)) rfl), (W0_in (List.mem_of_getElem? (i := 946) (by decide +kernel)) rfl)⟩
theorem lkX9_235 : GVirt RX9 235 mX2_nearest := ⟨(W0_in (List.mem_of_getElem? (i := 948) (by decide +kernel)) rfl), (W0_in (List.mem_of_getElem? (i := 949) (by decide +kernel)) rfl), (W0_in (List.mem_of_getElem? (i := 950) (by decide +kernel)) rfl)⟩
theorem lkX2_110 : GVirt RX2 110 mX2_interpolated := ⟨(W0_in (List.mem_of_getElem? (i := 952) (by decide +kernel)) rfl), (W0_in (List.mem_of_getElem? (i := 920) (by decide +kernel)) rfl), (W0_in (List.mem_of_getElem? (i := 921) (by decide +kernel)) rfl)⟩
theorem lkX2_114 : GVirt RX2 114 mX0_euclid := ⟨(W0_in (List.mem_of_getElem? (i := 953) (by decide +kernel)) rfl), (W0_in (List.mem_of_getElem? (i := 799) (by decide +kernel)) rfl), (W0_in (List.mem_of_getElem? (i := 800) (by decide +kernel)) rfl)⟩
theorem lkX2_118 : GVirt RX2 118 mX0_lastByFactor := ⟨(W0_in (List.mem_of_getElem? (i := 954) (by decide +kernel)) rfl), (W0_in (List.mem_of_getElem? (i := 955) (by decide +kernel)) rfl), (W0_in (List.mem_of_getElem? (i := 956) (by decide +kernel)) rfl)⟩
theorem lkX9_239 : GVirt RX9 239 mX2_wrongFor := ⟨(W0_in (List.mem_of_getElem? (i := 958) (by decide +kernel)) rfl), (W0_in (List.mem_of_getElem? (i := 959) (by decide +kernel)) rfl), (W0_in (List.mem_of_getElem? (i := 960) (by decide +kernel)) rfl)⟩
theorem lkX2_121 : GVirt RX2 121 mX0_evaluated := ⟨(W0_in (List.mem_of_getElem? (i := 962) (by decide +kernel)) rfl), (W0_in (List.mem_of_getElem? (i := 854) (by decide +kernel)) rfl), (W0_in (List.mem_of_getElem? (i := 855) (by decide +kernel)) rfl)⟩
theorem lkL_143 : GVirt RL 143 mX9_relation := ⟨(W0_in (List.mem_of_getElem? (i := 963) (by decide +kernel)) rfl), (W0_in (List.mem_of_getElem? (i := 964) (by decide +kernel)) rfl), (W0_in (List.mem_of_getElem? (i := 965) (by decide +kernel)) rfl)⟩
theorem lkX9_242 : GVirt RX9 242 mX2_seekRelation := ⟨(W0_in (List.mem_of_getElem? (i := 967) (by decide +kernel)) rfl), (W0_in (List.mem_of_getElem? (i := 968) (by decide +kernel)) rfl), (W0_in (List.mem_of_getElem? (i := 969) (by decide +kernel)) rfl)⟩
theorem lkX2_125 : GVirt RX2 125 mX2_lack := ⟨(W0_in (List.mem_of_getElem? (i := 971) (by decide +kernel)) rfl), (W0_in (List.mem_of_getElem? (i := 973) (by decide +kernel)) rfl), (W0_in (List.mem_of_getElem? (i := 34) (by decide +kernel)) rfl)⟩
theorem lkX2_128 : GVirt RX2 128 mX4_length := ⟨(W0_in (List.mem_of_getElem? (i := 975) (by decide +kernel)) rfl), (W0_in (List.mem_of_getElem? (i := 573) (by decide +kernel)) rfl), (W0_in (List.mem_of_getElem? (i := 574) (by decide +kernel)) rfl)⟩
theorem lkX9_245 : GVirt RX9 245 mX2_soughtFactor := ⟨(W0_in (List.mem_of_getElem? (i := 976) (by decide +kernel)) rfl), (W0_in (List.mem_of_getElem? (i := 977) (by decide +kernel)) rfl), (W0_in (List.mem_of_getElem? (i := 978) (by decide +kernel)) rfl)⟩
theorem lkL_147 : GVirt RL 147 mX9_power := ⟨(W0_in (List.mem_of_getElem? (i := 980) (by decide +kernel)) rfl), (W0_in (List.mem_of_getElem? (i := 981) (by decide +kernel)) rfl), (W0_in (List.mem_of_getElem? (i := 982) (by decide +kernel)) rfl)⟩
theorem lkX9_248 : GVirt RX9 248 mX2_summed := ⟨(W0_in (List.mem_of_getElem? (i := 984) (by decide +kernel)) rfl), (W0_in (List.mem_of_getElem? (i := 985) (by decide +kernel)) rfl), (W0_in (List.mem_of_getElem? (i := 986) (by decide +kernel)) rfl)⟩
theorem lkX2_132 : GVirt RX2 132 mX3_raised := ⟨(W0_in (List.mem_of_getElem? (i := 988) (by decide +kernel)) rfl), (W0_in (List.mem_of_getElem? (i := 781) (by decide +kernel)) rfl), (W0_in (List.mem_of_getElem? (i := 782) (by decide +kernel)) rfl)⟩
theorem lkL_151 : GVirt RL 151 mX9_count := ⟨(W0_in (List.mem_of_getElem? (i := 989) (by decide +kernel)) rfl), (W0_in (List.mem_of_getElem? (i := 990) (by decide +kernel)) rfl), (W0_in (List.mem_of_getElem? (i := 991) (by decide +kernel)) rfl)⟩
theorem lkX9_251 : GVirt RX9 251 mX3_prime := ⟨(W0_in (List.mem_of_getElem? (i := 993) (by decide +kernel)) rfl), (W0_in (List.mem_of_getElem? (i := 842) (by decide +kernel)) rfl), (W0_in (List.mem_of_getElem? (i := 843) (by decide +kernel)) rfl)⟩
theorem lkL_155 : GVirt RL 155 mX9_counted := ⟨(W0_in (List.mem_of_getElem? (i := 994) (by decide +kernel)) rfl), (W0_in (List.mem_of_getElem? (i := 995) (by decide +kernel)) rfl), (W0_in (List.mem_of_getElem? (i := 996) (by decide +kernel)) rfl)⟩
theorem lkL_160 : GVirt RL 160 mX9_sheet := ⟨(W0_in (List.mem_of_getElem? (i := 998) (by decide +kernel)) rfl), (W0_in (List.mem_of_getElem? (i := 999) (by decide +kernel)) rfl), (W0_in (List.mem_of_getElem? (i := 1000) (by decide +kernel)) rfl)⟩
theorem lkX9_258 : GVirt RX9 258 mX5_begin := ⟨(W0_in (List.mem_of_getElem? (i := 1002) (by decide +kernel)) rfl), (W0_in (List.mem_of_getElem? (i := 1003) (by decide +kernel)) rfl), (W0_in (List.mem_of_getElem? (i := 1004) (by decide +kernel)) rfl)⟩
theorem lkX5_22 : GStat RX5 22 mJ9_min_7cf53 := ⟨(W0_in (List.mem_of_getElem? (i := 1006) (by decide +kernel)) rfl), (W0_in (List.mem_of_getElem? (i := 675) (by decide +kernel)) rfl)⟩
theorem lkL_164 : GVirt RL 164 mX9_cell := ⟨(W0_in (List.mem_of_getElem? (i := 1007) (by decide +kernel)) rfl), (W0_in (List.mem_of_getElem? (i := 1008) (by decide +kernel)) rfl), (W0_in (List.mem_of_getElem? (i := 1009) (by decide +kernel)) rfl)⟩
theorem lkX9_261 : GVirt RX9 261 mX5_sort := ⟨(W0_in (List.mem_of_getElem? (i := 1011) (by decide +kernel)) rfl), (W0_in (List.mem_of_getElem? (i := 1012) (by decide +kernel)) rfl), (W0_in (List.mem_of_getElem? (i := 1013) (by decide +kernel)) rfl)⟩
theorem lkX9_264 : GVirt RX9 264 mX5_size := ⟨(W0_in (List.mem_of_getElem? (i := 1015) (by decide +kernel)) rfl), (W0_in (List.mem_of_getElem? (i := 1016) (by decide +kernel)) rfl), (W0_in (List.mem_of_getElem? (i := 1017) (by decide +kernel)) rfl)⟩
theorem lkX9_265 : GVirt RX9 265 mX5_write := ⟨(W0_in (List.mem_of_getElem? (i := 1019) (by decide +kernel)) rfl), (W0_in (List.mem_of_getElem? (i := 1020) (by decide +kernel)) rfl), (W0_in (List.mem_of_getElem? (i := 1021) (by decide +kernel)) rfl)⟩
theorem lkL_167 : GVirt RL 167 mX9_lay := ⟨(W0_in (List.mem_of_getElem? (i := 1024) (by decide +kernel)) rfl), (W0_in (List.mem_of_getElem? (i := 1025) (by decide +kernel)) rfl), (W0_in (List.mem_of_getElem? (i := 1026) (by decide +kernel)) rfl)⟩
theorem lkX9_267 : GVirt RX9 267 mX5_read := ⟨(W0_in (List.mem_of_getElem? (i := 1028) (by decide +kernel)) rfl), (W0_in (List.mem_of_getElem? (i := 1029) (by decide +kernel)) rfl), (W0_in (List.mem_of_getElem? (i := 1030) (by decide +kernel)) rfl)⟩
theorem lkL_172 : GVirt RL 172 mX9_taken := ⟨(W0_in (List.mem_of_getElem? (i := 1032) (by decide +kernel)) rfl), (W0_in (List.mem_of_getElem? (i := 1033) (by decide +kernel)) rfl), (W0_in (List.mem_of_getElem? (i := 1034) (by decide +kernel)) rfl)⟩
theorem lkX9_270 : GVirt RX9 270 mX8_isUnder := ⟨(W0_in (List.mem_of_getElem? (i := 1036) (by decide +kernel)) rfl), (W0_in (List.mem_of_getElem? (i := 708) (by decide +kernel)) rfl), (W0_in (List.mem_of_getElem? (i := 709) (by decide +kernel)) rfl)⟩
theorem lkL_9 : GStat RL 9 mL_cell := ⟨(W0_in (List.mem_of_getElem? (i := 1037) (by decide +kernel)) rfl), (W0_in (List.mem_of_getElem? (i := 1038) (by decide +kernel)) rfl)⟩
theorem lkL_20 : GSpec RL 20 mX10_init := ⟨(W0_in (List.mem_of_getElem? (i := 1042) (by decide +kernel)) rfl), (W0_in (List.mem_of_getElem? (i := 1043) (by decide +kernel)) rfl), rfl, rfl⟩
theorem lkX10_7 : Cond.methodLink RX10 7 objectInit ∈ W0 := (W0_in (List.mem_of_getElem? (i := 1045) (by decide +kernel)) rfl)
theorem lkL_25 : GVirt RL 25 mX10_put := ⟨(W0_in (List.mem_of_getElem? (i := 1171) (by decide +kernel)) rfl), (W0_in (List.mem_of_getElem? (i := 1172) (by decide +kernel)) rfl), (W0_in (List.mem_of_getElem? (i := 1173) (by decide +kernel)) rfl)⟩
theorem lkX10_98 : GStat RX10 98 mX10_isPoly := ⟨(W0_in (List.mem_of_getElem? (i := 1175) (by decide +kernel)) rfl), (W0_in (List.mem_of_getElem? (i := 1176) (by decide +kernel)) rfl)⟩
theorem lkX10_86 : GStat RX10 86 mX10_in := ⟨(W0_in (List.mem_of_getElem? (i := 1178) (by decide +kernel)) rfl), (W0_in (List.mem_of_getElem? (i := 1179) (by decide +kernel)) rfl)⟩
theorem lkX10_102 : GVirt RX10 102 mX10_rest := ⟨(W0_in (List.mem_of_getElem? (i := 1181) (by decide +kernel)) rfl), (W0_in (List.mem_of_getElem? (i := 1183) (by decide +kernel)) rfl), (W0_in (List.mem_of_getElem? (i := 35) (by decide +kernel)) rfl)⟩
theorem lkL_30 : GVirt RL 30 mX10_at := ⟨(W0_in (List.mem_of_getElem? (i := 1185) (by decide +kernel)) rfl), (W0_in (List.mem_of_getElem? (i := 1186) (by decide +kernel)) rfl), (W0_in (List.mem_of_getElem? (i := 1187) (by decide +kernel)) rfl)⟩
theorem lkX10_94 : GVirt RX10 94 mX10_length := ⟨(W0_in (List.mem_of_getElem? (i := 1189) (by decide +kernel)) rfl), (W0_in (List.mem_of_getElem? (i := 1191) (by decide +kernel)) rfl), (W0_in (List.mem_of_getElem? (i := 36) (by decide +kernel)) rfl)⟩
theorem lkL_35 : GVirt RL 35 mX10_clear := ⟨(W0_in (List.mem_of_getElem? (i := 1193) (by decide +kernel)) rfl), (W0_in (List.mem_of_getElem? (i := 1194) (by decide +kernel)) rfl), (W0_in (List.mem_of_getElem? (i := 1195) (by decide +kernel)) rfl)⟩
theorem lkX10_105 : GVirt RX10 105 mX10_empty := ⟨(W0_in (List.mem_of_getElem? (i := 1197) (by decide +kernel)) rfl), (W0_in (List.mem_of_getElem? (i := 1199) (by decide +kernel)) rfl), (W0_in (List.mem_of_getElem? (i := 37) (by decide +kernel)) rfl)⟩
theorem lkL_40 : GVirt RL 40 mX10_sum := ⟨(W0_in (List.mem_of_getElem? (i := 1201) (by decide +kernel)) rfl), (W0_in (List.mem_of_getElem? (i := 1202) (by decide +kernel)) rfl), (W0_in (List.mem_of_getElem? (i := 1203) (by decide +kernel)) rfl)⟩
theorem lkX10_109 : GVirt RX10 109 mX10_comes := ⟨(W0_in (List.mem_of_getElem? (i := 1205) (by decide +kernel)) rfl), (W0_in (List.mem_of_getElem? (i := 1207) (by decide +kernel)) rfl), (W0_in (List.mem_of_getElem? (i := 38) (by decide +kernel)) rfl)⟩
theorem lkX10_90 : GVirt RX10 90 mX10_copy := ⟨(W0_in (List.mem_of_getElem? (i := 1209) (by decide +kernel)) rfl), (W0_in (List.mem_of_getElem? (i := 1211) (by decide +kernel)) rfl), (W0_in (List.mem_of_getElem? (i := 39) (by decide +kernel)) rfl)⟩
theorem lkL_44 : GVirt RL 44 mX10_way := ⟨(W0_in (List.mem_of_getElem? (i := 1213) (by decide +kernel)) rfl), (W0_in (List.mem_of_getElem? (i := 1214) (by decide +kernel)) rfl), (W0_in (List.mem_of_getElem? (i := 1215) (by decide +kernel)) rfl)⟩
theorem lkL_48 : GVirt RL 48 mX10_times := ⟨(W0_in (List.mem_of_getElem? (i := 1217) (by decide +kernel)) rfl), (W0_in (List.mem_of_getElem? (i := 1218) (by decide +kernel)) rfl), (W0_in (List.mem_of_getElem? (i := 1219) (by decide +kernel)) rfl)⟩
theorem lkX10_133 : GVirt RX10 133 mX10_areBad := ⟨(W0_in (List.mem_of_getElem? (i := 1221) (by decide +kernel)) rfl), (W0_in (List.mem_of_getElem? (i := 1223) (by decide +kernel)) rfl), (W0_in (List.mem_of_getElem? (i := 40) (by decide +kernel)) rfl)⟩
theorem lkX10_136 : GVirt RX10 136 mX10_isWay := ⟨(W0_in (List.mem_of_getElem? (i := 1225) (by decide +kernel)) rfl), (W0_in (List.mem_of_getElem? (i := 1227) (by decide +kernel)) rfl), (W0_in (List.mem_of_getElem? (i := 41) (by decide +kernel)) rfl)⟩
theorem lkX10_139 : GVirt RX10 139 mX10_costOf := ⟨(W0_in (List.mem_of_getElem? (i := 1229) (by decide +kernel)) rfl), (W0_in (List.mem_of_getElem? (i := 1231) (by decide +kernel)) rfl), (W0_in (List.mem_of_getElem? (i := 42) (by decide +kernel)) rfl)⟩
theorem lkX10_119 : GStat RX10 119 mX10_powerFor := ⟨(W0_in (List.mem_of_getElem? (i := 1233) (by decide +kernel)) rfl), (W0_in (List.mem_of_getElem? (i := 1234) (by decide +kernel)) rfl)⟩
theorem lkX10_124 : GVirt RX10 124 mX10_same := ⟨(W0_in (List.mem_of_getElem? (i := 1237) (by decide +kernel)) rfl), (W0_in (List.mem_of_getElem? (i := 1239) (by decide +kernel)) rfl), (W0_in (List.mem_of_getElem? (i := 43) (by decide +kernel)) rfl)⟩
theorem lkX10_130 : GVirt RX10 130 mX10_layOut := ⟨(W0_in (List.mem_of_getElem? (i := 1243) (by decide +kernel)) rfl), (W0_in (List.mem_of_getElem? (i := 1245) (by decide +kernel)) rfl), (W0_in (List.mem_of_getElem? (i := 44) (by decide +kernel)) rfl)⟩
theorem lkX10_143 : GVirt RX10 143 mX10_isLong := ⟨(W0_in (List.mem_of_getElem? (i := 1248) (by decide +kernel)) rfl), (W0_in (List.mem_of_getElem? (i := 1250) (by decide +kernel)) rfl), (W0_in (List.mem_of_getElem? (i := 45) (by decide +kernel)) rfl)⟩
theorem lkX10_146 : GVirt RX10 146 mX10_multiply := ⟨(W0_in (List.mem_of_getElem? (i := 1252) (by decide +kernel)) rfl), (W0_in (List.mem_of_getElem? (i := 1254) (by decide +kernel)) rfl), (W0_in (List.mem_of_getElem? (i := 46) (by decide +kernel)) rfl)⟩
theorem lkL_52 : GVirt RL 52 mX10_cost := ⟨(W0_in (List.mem_of_getElem? (i := 1256) (by decide +kernel)) rfl), (W0_in (List.mem_of_getElem? (i := 1257) (by decide +kernel)) rfl), (W0_in (List.mem_of_getElem? (i := 1258) (by decide +kernel)) rfl)⟩
theorem lkL_56 : GVirt RL 56 mX10_plan := ⟨(W0_in (List.mem_of_getElem? (i := 1260) (by decide +kernel)) rfl), (W0_in (List.mem_of_getElem? (i := 1261) (by decide +kernel)) rfl), (W0_in (List.mem_of_getElem? (i := 1262) (by decide +kernel)) rfl)⟩
theorem lkX10_158 : GVirt RX10 158 mX10_planOf := ⟨(W0_in (List.mem_of_getElem? (i := 1264) (by decide +kernel)) rfl), (W0_in (List.mem_of_getElem? (i := 1266) (by decide +kernel)) rfl), (W0_in (List.mem_of_getElem? (i := 47) (by decide +kernel)) rfl)⟩
theorem lkX10_154 : GVirt RX10 154 mX10_saysOf := ⟨(W0_in (List.mem_of_getElem? (i := 1268) (by decide +kernel)) rfl), (W0_in (List.mem_of_getElem? (i := 1270) (by decide +kernel)) rfl), (W0_in (List.mem_of_getElem? (i := 48) (by decide +kernel)) rfl)⟩
theorem lkX10_261 : GVirt RX10 261 mX10_read := ⟨(W0_in (List.mem_of_getElem? (i := 1272) (by decide +kernel)) rfl), (W0_in (List.mem_of_getElem? (i := 1274) (by decide +kernel)) rfl), (W0_in (List.mem_of_getElem? (i := 49) (by decide +kernel)) rfl)⟩
theorem lkX10_202 : GVirt RX10 202 mX10_next := ⟨(W0_in (List.mem_of_getElem? (i := 1276) (by decide +kernel)) rfl), (W0_in (List.mem_of_getElem? (i := 1278) (by decide +kernel)) rfl), (W0_in (List.mem_of_getElem? (i := 50) (by decide +kernel)) rfl)⟩
theorem lkX10_177 : GVirt RX10 177 mX10_byteAt := ⟨(W0_in (List.mem_of_getElem? (i := 1280) (by decide +kernel)) rfl), (W0_in (List.mem_of_getElem? (i := 1282) (by decide +kernel)) rfl), (W0_in (List.mem_of_getElem? (i := 51) (by decide +kernel)) rfl)⟩
theorem lkX10_253 : GVirt RX10 253 mX10_part := ⟨(W0_in (List.mem_of_getElem? (i := 1285) (by decide +kernel)) rfl), (W0_in (List.mem_of_getElem? (i := 1287) (by decide +kernel)) rfl), (W0_in (List.mem_of_getElem? (i := 52) (by decide +kernel)) rfl)⟩
theorem lkX10_240 : GVirt RX10 240 mX10_isWord := ⟨(W0_in (List.mem_of_getElem? (i := 1289) (by decide +kernel)) rfl), (W0_in (List.mem_of_getElem? (i := 1291) (by decide +kernel)) rfl), (W0_in (List.mem_of_getElem? (i := 53) (by decide +kernel)) rfl)⟩
theorem lkX10_199 : GVirt RX10 199 mX10_fail := ⟨(W0_in (List.mem_of_getElem? (i := 1293) (by decide +kernel)) rfl), (W0_in (List.mem_of_getElem? (i := 1295) (by decide +kernel)) rfl), (W0_in (List.mem_of_getElem? (i := 54) (by decide +kernel)) rfl)⟩
theorem lkX10_231 : GVirt RX10 231 mX10_either := ⟨(W0_in (List.mem_of_getElem? (i := 1297) (by decide +kernel)) rfl), (W0_in (List.mem_of_getElem? (i := 1299) (by decide +kernel)) rfl), (W0_in (List.mem_of_getElem? (i := 55) (by decide +kernel)) rfl)⟩
theorem lkX10_249 : GVirt RX10 249 mX10_both := ⟨(W0_in (List.mem_of_getElem? (i := 1301) (by decide +kernel)) rfl), (W0_in (List.mem_of_getElem? (i := 1303) (by decide +kernel)) rfl), (W0_in (List.mem_of_getElem? (i := 56) (by decide +kernel)) rfl)⟩
theorem lkX10_243 : GVirt RX10 243 mX10_not := ⟨(W0_in (List.mem_of_getElem? (i := 1305) (by decide +kernel)) rfl), (W0_in (List.mem_of_getElem? (i := 1307) (by decide +kernel)) rfl), (W0_in (List.mem_of_getElem? (i := 57) (by decide +kernel)) rfl)⟩
theorem lkX10_223 : GVirt RX10 223 mX10_opens := ⟨(W0_in (List.mem_of_getElem? (i := 1309) (by decide +kernel)) rfl), (W0_in (List.mem_of_getElem? (i := 1311) (by decide +kernel)) rfl), (W0_in (List.mem_of_getElem? (i := 58) (by decide +kernel)) rfl)⟩
theorem lkX10_246 : GVirt RX10 246 mX10_added := ⟨(W0_in (List.mem_of_getElem? (i := 1313) (by decide +kernel)) rfl), (W0_in (List.mem_of_getElem? (i := 1315) (by decide +kernel)) rfl), (W0_in (List.mem_of_getElem? (i := 59) (by decide +kernel)) rfl)⟩
theorem lkX10_237 : GVirt RX10 237 mX10_term := ⟨(W0_in (List.mem_of_getElem? (i := 1317) (by decide +kernel)) rfl), (W0_in (List.mem_of_getElem? (i := 1319) (by decide +kernel)) rfl), (W0_in (List.mem_of_getElem? (i := 60) (by decide +kernel)) rfl)⟩
theorem lkX10_227 : GVirt RX10 227 mX10_one := ⟨(W0_in (List.mem_of_getElem? (i := 1321) (by decide +kernel)) rfl), (W0_in (List.mem_of_getElem? (i := 1323) (by decide +kernel)) rfl), (W0_in (List.mem_of_getElem? (i := 61) (by decide +kernel)) rfl)⟩
theorem lkX10_220 : GVirt RX10 220 mX10_isSign := ⟨(W0_in (List.mem_of_getElem? (i := 1325) (by decide +kernel)) rfl), (W0_in (List.mem_of_getElem? (i := 1327) (by decide +kernel)) rfl), (W0_in (List.mem_of_getElem? (i := 62) (by decide +kernel)) rfl)⟩
theorem lkX10_234 : GVirt RX10 234 mX10_name := ⟨(W0_in (List.mem_of_getElem? (i := 1329) (by decide +kernel)) rfl), (W0_in (List.mem_of_getElem? (i := 1331) (by decide +kernel)) rfl), (W0_in (List.mem_of_getElem? (i := 63) (by decide +kernel)) rfl)⟩
theorem lkL_60 : GVirt RL 60 mX10_planned := ⟨(W0_in (List.mem_of_getElem? (i := 1335) (by decide +kernel)) rfl), (W0_in (List.mem_of_getElem? (i := 1336) (by decide +kernel)) rfl), (W0_in (List.mem_of_getElem? (i := 1337) (by decide +kernel)) rfl)⟩
theorem lkX10_161 : GVirt RX10 161 mX10_times := ⟨(W0_in (List.mem_of_getElem? (i := 1339) (by decide +kernel)) rfl), (W0_in (List.mem_of_getElem? (i := 1218) (by decide +kernel)) rfl), (W0_in (List.mem_of_getElem? (i := 1219) (by decide +kernel)) rfl)⟩
theorem lkL_159 : GVirt RL 159 mX10_counted := ⟨(W0_in (List.mem_of_getElem? (i := 1340) (by decide +kernel)) rfl), (W0_in (List.mem_of_getElem? (i := 1341) (by decide +kernel)) rfl), (W0_in (List.mem_of_getElem? (i := 1342) (by decide +kernel)) rfl)⟩
theorem lkL_67 : GVirt RL 67 mX10_feed := ⟨(W0_in (List.mem_of_getElem? (i := 1344) (by decide +kernel)) rfl), (W0_in (List.mem_of_getElem? (i := 1345) (by decide +kernel)) rfl), (W0_in (List.mem_of_getElem? (i := 1346) (by decide +kernel)) rfl)⟩
theorem lkL_72 : GVirt RL 72 mX10_text := ⟨(W0_in (List.mem_of_getElem? (i := 1348) (by decide +kernel)) rfl), (W0_in (List.mem_of_getElem? (i := 1349) (by decide +kernel)) rfl), (W0_in (List.mem_of_getElem? (i := 1350) (by decide +kernel)) rfl)⟩
theorem lkL_76 : GVirt RL 76 mX10_force := ⟨(W0_in (List.mem_of_getElem? (i := 1352) (by decide +kernel)) rfl), (W0_in (List.mem_of_getElem? (i := 1353) (by decide +kernel)) rfl), (W0_in (List.mem_of_getElem? (i := 1354) (by decide +kernel)) rfl)⟩
theorem lkL_81 : GVirt RL 81 mX10_says := ⟨(W0_in (List.mem_of_getElem? (i := 1356) (by decide +kernel)) rfl), (W0_in (List.mem_of_getElem? (i := 1357) (by decide +kernel)) rfl), (W0_in (List.mem_of_getElem? (i := 1358) (by decide +kernel)) rfl)⟩
theorem lkL_86 : GVirt RL 86 mX10_divide := ⟨(W0_in (List.mem_of_getElem? (i := 1361) (by decide +kernel)) rfl), (W0_in (List.mem_of_getElem? (i := 1362) (by decide +kernel)) rfl), (W0_in (List.mem_of_getElem? (i := 1363) (by decide +kernel)) rfl)⟩
theorem lkX10_269 : GVirt RX10 269 mX10_divideRows := ⟨(W0_in (List.mem_of_getElem? (i := 1365) (by decide +kernel)) rfl), (W0_in (List.mem_of_getElem? (i := 1367) (by decide +kernel)) rfl), (W0_in (List.mem_of_getElem? (i := 64) (by decide +kernel)) rfl)⟩
theorem lkX10_266 : GVirt RX10 266 mX10_inverse := ⟨(W0_in (List.mem_of_getElem? (i := 1369) (by decide +kernel)) rfl), (W0_in (List.mem_of_getElem? (i := 1371) (by decide +kernel)) rfl), (W0_in (List.mem_of_getElem? (i := 65) (by decide +kernel)) rfl)⟩
theorem lkX10_82 : GVirt RX10 82 mX10_raised := ⟨(W0_in (List.mem_of_getElem? (i := 1373) (by decide +kernel)) rfl), (W0_in (List.mem_of_getElem? (i := 1375) (by decide +kernel)) rfl), (W0_in (List.mem_of_getElem? (i := 66) (by decide +kernel)) rfl)⟩
theorem lkL_90 : GVirt RL 90 mX10_gcd := ⟨(W0_in (List.mem_of_getElem? (i := 1377) (by decide +kernel)) rfl), (W0_in (List.mem_of_getElem? (i := 1378) (by decide +kernel)) rfl), (W0_in (List.mem_of_getElem? (i := 1379) (by decide +kernel)) rfl)⟩
theorem lkX10_275 : GVirt RX10 275 mX10_common := ⟨(W0_in (List.mem_of_getElem? (i := 1381) (by decide +kernel)) rfl), (W0_in (List.mem_of_getElem? (i := 1383) (by decide +kernel)) rfl), (W0_in (List.mem_of_getElem? (i := 67) (by decide +kernel)) rfl)⟩
theorem lkX10_272 : GVirt RX10 272 mX10_scale := ⟨(W0_in (List.mem_of_getElem? (i := 1385) (by decide +kernel)) rfl), (W0_in (List.mem_of_getElem? (i := 1387) (by decide +kernel)) rfl), (W0_in (List.mem_of_getElem? (i := 68) (by decide +kernel)) rfl)⟩
theorem lkL_94 : GVirt RL 94 mX10_cofactor := ⟨(W0_in (List.mem_of_getElem? (i := 1389) (by decide +kernel)) rfl), (W0_in (List.mem_of_getElem? (i := 1390) (by decide +kernel)) rfl), (W0_in (List.mem_of_getElem? (i := 1391) (by decide +kernel)) rfl)⟩
theorem lkL_98 : GVirt RL 98 mX10_compose := ⟨(W0_in (List.mem_of_getElem? (i := 1393) (by decide +kernel)) rfl), (W0_in (List.mem_of_getElem? (i := 1394) (by decide +kernel)) rfl), (W0_in (List.mem_of_getElem? (i := 1395) (by decide +kernel)) rfl)⟩
theorem lkL_102 : GVirt RL 102 mX10_move := ⟨(W0_in (List.mem_of_getElem? (i := 1397) (by decide +kernel)) rfl), (W0_in (List.mem_of_getElem? (i := 1398) (by decide +kernel)) rfl), (W0_in (List.mem_of_getElem? (i := 1399) (by decide +kernel)) rfl)⟩
theorem lkX10_278 : GVirt RX10 278 mX10_moveRow := ⟨(W0_in (List.mem_of_getElem? (i := 1401) (by decide +kernel)) rfl), (W0_in (List.mem_of_getElem? (i := 1403) (by decide +kernel)) rfl), (W0_in (List.mem_of_getElem? (i := 69) (by decide +kernel)) rfl)⟩
theorem lkL_106 : GVirt RL 106 mX10_root := ⟨(W0_in (List.mem_of_getElem? (i := 1405) (by decide +kernel)) rfl), (W0_in (List.mem_of_getElem? (i := 1406) (by decide +kernel)) rfl), (W0_in (List.mem_of_getElem? (i := 1407) (by decide +kernel)) rfl)⟩
theorem lkX10_281 : GVirt RX10 281 mX10_worth := ⟨(W0_in (List.mem_of_getElem? (i := 1409) (by decide +kernel)) rfl), (W0_in (List.mem_of_getElem? (i := 1411) (by decide +kernel)) rfl), (W0_in (List.mem_of_getElem? (i := 70) (by decide +kernel)) rfl)⟩
theorem lkL_110 : GVirt RL 110 mX10_order := ⟨(W0_in (List.mem_of_getElem? (i := 1413) (by decide +kernel)) rfl), (W0_in (List.mem_of_getElem? (i := 1414) (by decide +kernel)) rfl), (W0_in (List.mem_of_getElem? (i := 1415) (by decide +kernel)) rfl)⟩
theorem lkL_114 : GVirt RL 114 mX10_place := ⟨(W0_in (List.mem_of_getElem? (i := 1417) (by decide +kernel)) rfl), (W0_in (List.mem_of_getElem? (i := 1418) (by decide +kernel)) rfl), (W0_in (List.mem_of_getElem? (i := 1419) (by decide +kernel)) rfl)⟩
theorem lkL_118 : GVirt RL 118 mX10_leave := ⟨(W0_in (List.mem_of_getElem? (i := 1421) (by decide +kernel)) rfl), (W0_in (List.mem_of_getElem? (i := 1422) (by decide +kernel)) rfl), (W0_in (List.mem_of_getElem? (i := 1423) (by decide +kernel)) rfl)⟩
theorem lkL_122 : GVirt RL 122 mX10_see := ⟨(W0_in (List.mem_of_getElem? (i := 1425) (by decide +kernel)) rfl), (W0_in (List.mem_of_getElem? (i := 1426) (by decide +kernel)) rfl), (W0_in (List.mem_of_getElem? (i := 1427) (by decide +kernel)) rfl)⟩
theorem lkX10_287 : GVirt RX10 287 mX10_isPlace := ⟨(W0_in (List.mem_of_getElem? (i := 1429) (by decide +kernel)) rfl), (W0_in (List.mem_of_getElem? (i := 1431) (by decide +kernel)) rfl), (W0_in (List.mem_of_getElem? (i := 71) (by decide +kernel)) rfl)⟩
theorem lkL_126 : GVirt RL 126 mX10_told := ⟨(W0_in (List.mem_of_getElem? (i := 1433) (by decide +kernel)) rfl), (W0_in (List.mem_of_getElem? (i := 1434) (by decide +kernel)) rfl), (W0_in (List.mem_of_getElem? (i := 1435) (by decide +kernel)) rfl)⟩
theorem lkL_130 : GVirt RL 130 mX10_value := ⟨(W0_in (List.mem_of_getElem? (i := 1437) (by decide +kernel)) rfl), (W0_in (List.mem_of_getElem? (i := 1438) (by decide +kernel)) rfl), (W0_in (List.mem_of_getElem? (i := 1439) (by decide +kernel)) rfl)⟩
theorem lkL_134 : GVirt RL 134 mX10_look := ⟨(W0_in (List.mem_of_getElem? (i := 1441) (by decide +kernel)) rfl), (W0_in (List.mem_of_getElem? (i := 1442) (by decide +kernel)) rfl), (W0_in (List.mem_of_getElem? (i := 1443) (by decide +kernel)) rfl)⟩
theorem lkL_138 : GVirt RL 138 mX10_fill := ⟨(W0_in (List.mem_of_getElem? (i := 1445) (by decide +kernel)) rfl), (W0_in (List.mem_of_getElem? (i := 1446) (by decide +kernel)) rfl), (W0_in (List.mem_of_getElem? (i := 1447) (by decide +kernel)) rfl)⟩
theorem lkX10_290 : GVirt RX10 290 mX10_solve := ⟨(W0_in (List.mem_of_getElem? (i := 1449) (by decide +kernel)) rfl), (W0_in (List.mem_of_getElem? (i := 1451) (by decide +kernel)) rfl), (W0_in (List.mem_of_getElem? (i := 72) (by decide +kernel)) rfl)⟩
theorem lkL_142 : GVirt RL 142 mX10_right := ⟨(W0_in (List.mem_of_getElem? (i := 1453) (by decide +kernel)) rfl), (W0_in (List.mem_of_getElem? (i := 1454) (by decide +kernel)) rfl), (W0_in (List.mem_of_getElem? (i := 1455) (by decide +kernel)) rfl)⟩
theorem lkX10_293 : GVirt RX10 293 mX10_areUnlike := ⟨(W0_in (List.mem_of_getElem? (i := 1457) (by decide +kernel)) rfl), (W0_in (List.mem_of_getElem? (i := 1459) (by decide +kernel)) rfl), (W0_in (List.mem_of_getElem? (i := 73) (by decide +kernel)) rfl)⟩
theorem lkL_146 : GVirt RL 146 mX10_relation := ⟨(W0_in (List.mem_of_getElem? (i := 1461) (by decide +kernel)) rfl), (W0_in (List.mem_of_getElem? (i := 1462) (by decide +kernel)) rfl), (W0_in (List.mem_of_getElem? (i := 1463) (by decide +kernel)) rfl)⟩
theorem lkX10_299 : GVirt RX10 299 mX10_relate := ⟨(W0_in (List.mem_of_getElem? (i := 1465) (by decide +kernel)) rfl), (W0_in (List.mem_of_getElem? (i := 1467) (by decide +kernel)) rfl), (W0_in (List.mem_of_getElem? (i := 74) (by decide +kernel)) rfl)⟩
theorem lkL_150 : GVirt RL 150 mX10_power := ⟨(W0_in (List.mem_of_getElem? (i := 1469) (by decide +kernel)) rfl), (W0_in (List.mem_of_getElem? (i := 1470) (by decide +kernel)) rfl), (W0_in (List.mem_of_getElem? (i := 1471) (by decide +kernel)) rfl)⟩
theorem lkL_154 : GVirt RL 154 mX10_count := ⟨(W0_in (List.mem_of_getElem? (i := 1473) (by decide +kernel)) rfl), (W0_in (List.mem_of_getElem? (i := 1474) (by decide +kernel)) rfl), (W0_in (List.mem_of_getElem? (i := 1475) (by decide +kernel)) rfl)⟩
theorem lkL_163 : GVirt RL 163 mX10_sheet := ⟨(W0_in (List.mem_of_getElem? (i := 1477) (by decide +kernel)) rfl), (W0_in (List.mem_of_getElem? (i := 1478) (by decide +kernel)) rfl), (W0_in (List.mem_of_getElem? (i := 1479) (by decide +kernel)) rfl)⟩
theorem lkX10_302 : GStat RX10 302 mX10_isSheet := ⟨(W0_in (List.mem_of_getElem? (i := 1481) (by decide +kernel)) rfl), (W0_in (List.mem_of_getElem? (i := 1482) (by decide +kernel)) rfl)⟩
theorem lkL_166 : GVirt RL 166 mX10_cell := ⟨(W0_in (List.mem_of_getElem? (i := 1484) (by decide +kernel)) rfl), (W0_in (List.mem_of_getElem? (i := 1485) (by decide +kernel)) rfl), (W0_in (List.mem_of_getElem? (i := 1486) (by decide +kernel)) rfl)⟩
theorem lkL_171 : GVirt RL 171 mX10_lay := ⟨(W0_in (List.mem_of_getElem? (i := 1488) (by decide +kernel)) rfl), (W0_in (List.mem_of_getElem? (i := 1489) (by decide +kernel)) rfl), (W0_in (List.mem_of_getElem? (i := 1490) (by decide +kernel)) rfl)⟩
theorem lkL_175 : GVirt RL 175 mX10_taken := ⟨(W0_in (List.mem_of_getElem? (i := 1492) (by decide +kernel)) rfl), (W0_in (List.mem_of_getElem? (i := 1493) (by decide +kernel)) rfl), (W0_in (List.mem_of_getElem? (i := 1494) (by decide +kernel)) rfl)⟩
theorem lkX10_305 : GStat RX10 305 mX10_over := ⟨(W0_in (List.mem_of_getElem? (i := 1496) (by decide +kernel)) rfl), (W0_in (List.mem_of_getElem? (i := 1497) (by decide +kernel)) rfl)⟩
theorem lkX9_30 : GSpecN RX9 30 mX6_init := ⟨⟨RX9, List.mem_of_getElem? (i := 0) rfl⟩, (W0_in (List.mem_of_getElem? (i := 123) (by decide +kernel)) rfl), rfl, rfl⟩
theorem lkX9_85 : GSpecN RX9 85 mX5_init := ⟨⟨RX9, List.mem_of_getElem? (i := 1) rfl⟩, (W0_in (List.mem_of_getElem? (i := 290) (by decide +kernel)) rfl), rfl, rfl⟩
theorem lkX9_86 : GSpecN RX9 86 mX7_init := ⟨⟨RX9, List.mem_of_getElem? (i := 2) rfl⟩, (W0_in (List.mem_of_getElem? (i := 250) (by decide +kernel)) rfl), rfl, rfl⟩
theorem lkX1_11 : GSpecN RX1 11 mX7_init := ⟨⟨RX9, List.mem_of_getElem? (i := 3) rfl⟩, (W0_in (List.mem_of_getElem? (i := 250) (by decide +kernel)) rfl), rfl, rfl⟩
theorem lkX1_91 : GStatN RX1 91 mX9_isWithin := ⟨⟨RX9, List.mem_of_getElem? (i := 4) rfl⟩, (W0_in (List.mem_of_getElem? (i := 483) (by decide +kernel)) rfl)⟩
theorem lkX2_51 : GStatN RX2 51 mX9_isWithin := ⟨⟨RX9, List.mem_of_getElem? (i := 5) rfl⟩, (W0_in (List.mem_of_getElem? (i := 483) (by decide +kernel)) rfl)⟩
theorem lkX5_28 : GStatN RX5 28 mX9_isWithin := ⟨⟨RX9, List.mem_of_getElem? (i := 6) rfl⟩, (W0_in (List.mem_of_getElem? (i := 483) (by decide +kernel)) rfl)⟩
theorem lkX7_35 : GStatN RX7 35 mX9_isWithin := ⟨⟨RX9, List.mem_of_getElem? (i := 7) rfl⟩, (W0_in (List.mem_of_getElem? (i := 483) (by decide +kernel)) rfl)⟩
theorem lkX8_47 : GStatN RX8 47 mX9_isWithin := ⟨⟨RX9, List.mem_of_getElem? (i := 8) rfl⟩, (W0_in (List.mem_of_getElem? (i := 483) (by decide +kernel)) rfl)⟩
theorem oi_in : Cond.instanceMethod objectInit ∈ W0 := (W0_in (List.mem_of_getElem? (i := 98) (by decide +kernel)) rfl)
theorem oi_co : Cond.code objectInit ⟨#[0xb1]⟩ 1 none ∈ W0 := (W0_in (List.mem_of_getElem? (i := 99) (by decide +kernel)) rfl)
theorem clL_7 : Cond.classLink RL 7 RX9 ∈ W0 := (W0_in (List.mem_of_getElem? (i := 92) (by decide +kernel)) rfl)
theorem clX9_9 : Cond.classLink RX9 9 RX4 ∈ W0 := (W0_in (List.mem_of_getElem? (i := 100) (by decide +kernel)) rfl)
theorem clX9_22 : Cond.classLink RX9 22 RX8 ∈ W0 := (W0_in (List.mem_of_getElem? (i := 118) (by decide +kernel)) rfl)
theorem clX9_28 : Cond.classLink RX9 28 RX6 ∈ W0 := (W0_in (List.mem_of_getElem? (i := 120) (by decide +kernel)) rfl)
theorem clX9_35 : Cond.classLink RX9 35 RX7 ∈ W0 := (W0_in (List.mem_of_getElem? (i := 146) (by decide +kernel)) rfl)
theorem clX9_45 : Cond.classLink RX9 45 RX5 ∈ W0 := (W0_in (List.mem_of_getElem? (i := 148) (by decide +kernel)) rfl)
theorem clX9_51 : Cond.classLink RX9 51 RX3 ∈ W0 := (W0_in (List.mem_of_getElem? (i := 150) (by decide +kernel)) rfl)
theorem clX9_58 : Cond.classLink RX9 58 RX0 ∈ W0 := (W0_in (List.mem_of_getElem? (i := 166) (by decide +kernel)) rfl)
theorem clX0_9 : Cond.classLink RX0 9 RX4 ∈ W0 := (W0_in (List.mem_of_getElem? (i := 172) (by decide +kernel)) rfl)
theorem clX9_67 : Cond.classLink RX9 67 RX2 ∈ W0 := (W0_in (List.mem_of_getElem? (i := 202) (by decide +kernel)) rfl)
theorem clX2_18 : Cond.classLink RX2 18 RX4 ∈ W0 := (W0_in (List.mem_of_getElem? (i := 208) (by decide +kernel)) rfl)
theorem clX9_76 : Cond.classLink RX9 76 RX1 ∈ W0 := (W0_in (List.mem_of_getElem? (i := 241) (by decide +kernel)) rfl)
theorem clX1_9 : Cond.classLink RX1 9 RX7 ∈ W0 := (W0_in (List.mem_of_getElem? (i := 247) (by decide +kernel)) rfl)
theorem clL_18 : Cond.classLink RL 18 RX10 ∈ W0 := (W0_in (List.mem_of_getElem? (i := 1040) (by decide +kernel)) rfl)
theorem inX9 : Cond.instantiable RX9 15 ∈ W0 := (W0_in (List.mem_of_getElem? (i := 93) (by decide +kernel)) rfl)
theorem inX4 : Cond.instantiable RX4 2 ∈ W0 := (W0_in (List.mem_of_getElem? (i := 102) (by decide +kernel)) rfl)
theorem inX6 : Cond.instantiable RX6 6 ∈ W0 := (W0_in (List.mem_of_getElem? (i := 121) (by decide +kernel)) rfl)
theorem inX3 : Cond.instantiable RX3 1 ∈ W0 := (W0_in (List.mem_of_getElem? (i := 151) (by decide +kernel)) rfl)
theorem inX0 : Cond.instantiable RX0 9 ∈ W0 := (W0_in (List.mem_of_getElem? (i := 167) (by decide +kernel)) rfl)
theorem inX2 : Cond.instantiable RX2 10 ∈ W0 := (W0_in (List.mem_of_getElem? (i := 203) (by decide +kernel)) rfl)
theorem inX1 : Cond.instantiable RX1 5 ∈ W0 := (W0_in (List.mem_of_getElem? (i := 242) (by decide +kernel)) rfl)
theorem inX7 : Cond.instantiable RX7 6 ∈ W0 := (W0_in (List.mem_of_getElem? (i := 248) (by decide +kernel)) rfl)
theorem inX5 : Cond.instantiable RX5 3 ∈ W0 := (W0_in (List.mem_of_getElem? (i := 288) (by decide +kernel)) rfl)
theorem inX8 : Cond.instantiable RX8 3 ∈ W0 := (W0_in (List.mem_of_getElem? (i := 613) (by decide +kernel)) rfl)
theorem inX10 : Cond.instantiable RX10 39 ∈ W0 := (W0_in (List.mem_of_getElem? (i := 1041) (by decide +kernel)) rfl)
theorem niL : Cond.initialized RL ∈ W0 := (W0_in (List.mem_of_getElem? (i := 75) (by decide +kernel)) rfl)
theorem niX9 : Cond.initialized RX9 ∈ W0 := (W0_in (List.mem_of_getElem? (i := 76) (by decide +kernel)) rfl)
theorem niX4 : Cond.initialized RX4 ∈ W0 := (W0_in (List.mem_of_getElem? (i := 77) (by decide +kernel)) rfl)
theorem niJ9 : Cond.initialized RJ9 ∈ W0 := (W0_in (List.mem_of_getElem? (i := 78) (by decide +kernel)) rfl)
theorem niX6 : Cond.initialized RX6 ∈ W0 := (W0_in (List.mem_of_getElem? (i := 79) (by decide +kernel)) rfl)
theorem niX3 : Cond.initialized RX3 ∈ W0 := (W0_in (List.mem_of_getElem? (i := 80) (by decide +kernel)) rfl)
theorem niX0 : Cond.initialized RX0 ∈ W0 := (W0_in (List.mem_of_getElem? (i := 81) (by decide +kernel)) rfl)
theorem niX2 : Cond.initialized RX2 ∈ W0 := (W0_in (List.mem_of_getElem? (i := 82) (by decide +kernel)) rfl)
theorem niX1 : Cond.initialized RX1 ∈ W0 := (W0_in (List.mem_of_getElem? (i := 83) (by decide +kernel)) rfl)
theorem niX7 : Cond.initialized RX7 ∈ W0 := (W0_in (List.mem_of_getElem? (i := 84) (by decide +kernel)) rfl)
theorem niX5 : Cond.initialized RX5 ∈ W0 := (W0_in (List.mem_of_getElem? (i := 85) (by decide +kernel)) rfl)
theorem niJ0 : Cond.initialized RJ0 ∈ W0 := (W0_in (List.mem_of_getElem? (i := 86) (by decide +kernel)) rfl)
theorem niJ1 : Cond.initialized RJ1 ∈ W0 := (W0_in (List.mem_of_getElem? (i := 87) (by decide +kernel)) rfl)
theorem niJ3 : Cond.initialized RJ3 ∈ W0 := (W0_in (List.mem_of_getElem? (i := 88) (by decide +kernel)) rfl)
theorem niJ2 : Cond.initialized RJ2 ∈ W0 := (W0_in (List.mem_of_getElem? (i := 89) (by decide +kernel)) rfl)
theorem niX10 : Cond.initialized RX10 ∈ W0 := (W0_in (List.mem_of_getElem? (i := 90) (by decide +kernel)) rfl)
theorem niX8 : Cond.initialized RX8 ∈ W0 := (W0_in (List.mem_of_getElem? (i := 91) (by decide +kernel)) rfl)
theorem coX10_252 : Cond.constant RX10 252 (8740238) ∈ W0 := (W0_in (List.mem_of_getElem? (i := 1284) (by decide +kernel)) rfl)
theorem coX10_256 : Cond.constant RX10 256 (10421318) ∈ W0 := (W0_in (List.mem_of_getElem? (i := 1333) (by decide +kernel)) rfl)
theorem coX10_257 : Cond.constant RX10 257 (409469) ∈ W0 := (W0_in (List.mem_of_getElem? (i := 1334) (by decide +kernel)) rfl)
theorem coX9_178 : Cond.constantLong RX9 178 (-4611686018427387904) ∈ W0 := (W0_in (List.mem_of_getElem? (i := 763) (by decide +kernel)) rfl)
theorem coX10_67 : Cond.constantLong RX10 67 (8100956935179759146) ∈ W0 := (W0_in (List.mem_of_getElem? (i := 1046) (by decide +kernel)) rfl)
theorem coX10_69 : Cond.constantLong RX10 69 (7871011700452455456) ∈ W0 := (W0_in (List.mem_of_getElem? (i := 1047) (by decide +kernel)) rfl)
theorem coX10_71 : Cond.constantLong RX10 71 (8316312761837778292) ∈ W0 := (W0_in (List.mem_of_getElem? (i := 1048) (by decide +kernel)) rfl)
theorem coX10_73 : Cond.constantLong RX10 73 (3114585988676087328) ∈ W0 := (W0_in (List.mem_of_getElem? (i := 1049) (by decide +kernel)) rfl)
theorem coX10_75 : Cond.constantLong RX10 75 (4048801074170044448) ∈ W0 := (W0_in (List.mem_of_getElem? (i := 1050) (by decide +kernel)) rfl)
theorem coX10_77 : Cond.constantLong RX10 77 (255) ∈ W0 := (W0_in (List.mem_of_getElem? (i := 1051) (by decide +kernel)) rfl)
theorem coX10_122 : Cond.constantLong RX10 122 (-4) ∈ W0 := (W0_in (List.mem_of_getElem? (i := 1236) (by decide +kernel)) rfl)
theorem coX10_115 : Cond.constantLong RX10 115 (2) ∈ W0 := (W0_in (List.mem_of_getElem? (i := 1241) (by decide +kernel)) rfl)
theorem coX10_128 : Cond.constantLong RX10 128 (3) ∈ W0 := (W0_in (List.mem_of_getElem? (i := 1242) (by decide +kernel)) rfl)
theorem coX10_117 : Cond.constantLong RX10 117 (5) ∈ W0 := (W0_in (List.mem_of_getElem? (i := 1247) (by decide +kernel)) rfl)
theorem coX10_264 : Cond.constantLong RX10 264 (-4611686018427387904) ∈ W0 := (W0_in (List.mem_of_getElem? (i := 1360) (by decide +kernel)) rfl)
theorem coL_61 : Cond.constantLong RL 61 (4294967295) ∈ W0 := (W0_in (List.mem_of_getElem? (i := 1499) (by decide +kernel)) rfl)
theorem ar_int : Cond.arrayClass .int ∈ W0 := (W0_in (List.mem_of_getElem? (i := 117) (by decide +kernel)) rfl)
theorem ar_byte : Cond.arrayClass .byte ∈ W0 := (W0_in (List.mem_of_getElem? (i := 145) (by decide +kernel)) rfl)
theorem ar_long : Cond.arrayClass .long ∈ W0 := (W0_in (List.mem_of_getElem? (i := 1169) (by decide +kernel)) rfl)
theorem ar_boolean : Cond.arrayClass .boolean ∈ W0 := (W0_in (List.mem_of_getElem? (i := 1170) (by decide +kernel)) rfl)

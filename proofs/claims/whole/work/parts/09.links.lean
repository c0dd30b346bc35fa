set_option maxRecDepth 20000 in
theorem it_Jx4a65c : ∀ w ∈ u_ws RJx4a65c TJx4a65c 3, w ∈ yTs := yt_all (by decide +kernel)
set_option maxRecDepth 20000 in
theorem it_X0 : ∀ w ∈ u_ws RX0 TX0 1, w ∈ yTs := yt_all (by decide +kernel)
set_option maxRecDepth 20000 in
theorem it_X1 : ∀ w ∈ u_ws RX1 TX1 4, w ∈ yTs := yt_all (by decide +kernel)
set_option maxRecDepth 20000 in
theorem it_X2 : ∀ w ∈ u_ws RX2 TX2 5, w ∈ yTs := yt_all (by decide +kernel)
set_option maxRecDepth 20000 in
theorem it_X3 : ∀ w ∈ u_ws RX3 TX3 3, w ∈ yTs := yt_all (by decide +kernel)
set_option maxRecDepth 20000 in
theorem it_X4 : ∀ w ∈ u_ws RX4 TX4 5, w ∈ yTs := yt_all (by decide +kernel)
set_option maxRecDepth 20000 in
theorem it_X5 : ∀ w ∈ u_ws RX5 TX5 4, w ∈ yTs := yt_all (by decide +kernel)
set_option maxRecDepth 20000 in
theorem it_X6 : ∀ w ∈ u_ws RX6 TX6 18, w ∈ yTs := yt_all (by decide +kernel)
set_option maxRecDepth 20000 in
theorem it_X7 : ∀ w ∈ u_ws RX7 TX7 2, w ∈ yTs := yt_all (by decide +kernel)
set_option maxRecDepth 20000 in
theorem it_X8 : ∀ w ∈ u_ws RX8 TX8 16, w ∈ yTs := yt_all (by decide +kernel)
set_option maxRecDepth 20000 in
theorem it_X9 : ∀ w ∈ u_ws RX9 TX9 53, w ∈ yTs := yt_all (by decide +kernel)
theorem fl_X8_10 : yFl RX8 10 9 0 := ⟨RX8, TX8, 16, rfl, by decide, it_X8, yt_in 111 (by decide +kernel) rfl⟩
theorem fp_X8_10 : yFp RX8 10 9 0 (.object "java/util/ArrayList") true := ⟨RX8, TX8, 16, tyX8, rfl, by decide, it_X8, yt_in 111 (by decide +kernel) rfl, tyX8_ok, nmX8, rfl, rfl, (fun _ => rfl)⟩
theorem fl_X8_16 : yFl RX8 16 9 1 := ⟨RX8, TX8, 16, rfl, by decide, it_X8, yt_in 112 (by decide +kernel) rfl⟩
theorem fp_X8_16 : yFp RX8 16 9 1 (.object "java/util/ArrayList") true := ⟨RX8, TX8, 16, tyX8, rfl, by decide, it_X8, yt_in 112 (by decide +kernel) rfl, tyX8_ok, nmX8, rfl, rfl, (fun _ => rfl)⟩
theorem fl_X8_19 : yFl RX8 19 9 2 := ⟨RX8, TX8, 16, rfl, by decide, it_X8, yt_in 113 (by decide +kernel) rfl⟩
theorem fp_X8_19 : yFp RX8 19 9 2 (.object "java/util/ArrayList") true := ⟨RX8, TX8, 16, tyX8, rfl, by decide, it_X8, yt_in 113 (by decide +kernel) rfl, tyX8_ok, nmX8, rfl, rfl, (fun _ => rfl)⟩
theorem fl_X8_22 : yFl RX8 22 9 3 := ⟨RX8, TX8, 16, rfl, by decide, it_X8, yt_in 114 (by decide +kernel) rfl⟩
theorem fp_X8_22 : yFp RX8 22 9 3 (.object "java/util/ArrayList") true := ⟨RX8, TX8, 16, tyX8, rfl, by decide, it_X8, yt_in 114 (by decide +kernel) rfl, tyX8_ok, nmX8, rfl, rfl, (fun _ => rfl)⟩
theorem fl_X8_25 : yFl RX8 25 9 4 := ⟨RX8, TX8, 16, rfl, by decide, it_X8, yt_in 115 (by decide +kernel) rfl⟩
theorem fp_X8_25 : yFp RX8 25 9 4 (.object "java/util/ArrayList") true := ⟨RX8, TX8, 16, tyX8, rfl, by decide, it_X8, yt_in 115 (by decide +kernel) rfl, tyX8_ok, nmX8, rfl, rfl, (fun _ => rfl)⟩
theorem fl_X8_31 : yFl RX8 31 9 5 := ⟨RX8, TX8, 16, rfl, by decide, it_X8, yt_in 116 (by decide +kernel) rfl⟩
theorem fp_X8_31 : yFp RX8 31 9 5 (.object "CrossingKeeper$Findings") true := ⟨RX8, TX8, 16, tyX8, rfl, by decide, it_X8, yt_in 116 (by decide +kernel) rfl, tyX8_ok, nmX8, rfl, rfl, (fun _ => rfl)⟩
theorem fl_X8_38 : yFl RX8 38 9 6 := ⟨RX8, TX8, 16, rfl, by decide, it_X8, yt_in 117 (by decide +kernel) rfl⟩
theorem fp_X8_38 : yFp RX8 38 9 6 (.object "CrossingKeeper$Faults") true := ⟨RX8, TX8, 16, tyX8, rfl, by decide, it_X8, yt_in 117 (by decide +kernel) rfl, tyX8_ok, nmX8, rfl, rfl, (fun _ => rfl)⟩
theorem fl_X8_45 : yFl RX8 45 9 7 := ⟨RX8, TX8, 16, rfl, by decide, it_X8, yt_in 118 (by decide +kernel) rfl⟩
theorem fp_X8_45 : yFp RX8 45 9 7 (.object "CrossingKeeper$Bodies") true := ⟨RX8, TX8, 16, tyX8, rfl, by decide, it_X8, yt_in 118 (by decide +kernel) rfl, tyX8_ok, nmX8, rfl, rfl, (fun _ => rfl)⟩
theorem fl_X8_49 : yFl RX8 49 9 8 := ⟨RX8, TX8, 16, rfl, by decide, it_X8, yt_in 119 (by decide +kernel) rfl⟩
theorem fp_X8_49 : yFp RX8 49 9 8 (.int) false := ⟨RX8, TX8, 16, tyX8, rfl, by decide, it_X8, yt_in 119 (by decide +kernel) rfl, tyX8_ok, nmX8, rfl, rfl, (fun h => by cases h)⟩
theorem fl_X8_53 : yFl RX8 53 9 9 := ⟨RX8, TX8, 16, rfl, by decide, it_X8, yt_in 120 (by decide +kernel) rfl⟩
theorem fp_X8_53 : yFp RX8 53 9 9 (.int) false := ⟨RX8, TX8, 16, tyX8, rfl, by decide, it_X8, yt_in 120 (by decide +kernel) rfl, tyX8_ok, nmX8, rfl, rfl, (fun h => by cases h)⟩
theorem fl_X8_56 : yFl RX8 56 9 10 := ⟨RX8, TX8, 16, rfl, by decide, it_X8, yt_in 121 (by decide +kernel) rfl⟩
theorem fp_X8_56 : yFp RX8 56 9 10 (.object "CrossingKeeper$Stage") false := ⟨RX8, TX8, 16, tyX8, rfl, by decide, it_X8, yt_in 121 (by decide +kernel) rfl, tyX8_ok, nmX8, rfl, rfl, (fun h => by cases h)⟩
theorem fl_X8_60 : yFl RX8 60 9 11 := ⟨RX8, TX8, 16, rfl, by decide, it_X8, yt_in 122 (by decide +kernel) rfl⟩
theorem fp_X8_60 : yFp RX8 60 9 11 (.int) false := ⟨RX8, TX8, 16, tyX8, rfl, by decide, it_X8, yt_in 122 (by decide +kernel) rfl, tyX8_ok, nmX8, rfl, rfl, (fun h => by cases h)⟩
theorem fl_X8_63 : yFl RX8 63 9 12 := ⟨RX8, TX8, 16, rfl, by decide, it_X8, yt_in 123 (by decide +kernel) rfl⟩
theorem fp_X8_63 : yFp RX8 63 9 12 (.int) false := ⟨RX8, TX8, 16, tyX8, rfl, by decide, it_X8, yt_in 123 (by decide +kernel) rfl, tyX8_ok, nmX8, rfl, rfl, (fun h => by cases h)⟩
theorem fl_X8_66 : yFl RX8 66 9 13 := ⟨RX8, TX8, 16, rfl, by decide, it_X8, yt_in 124 (by decide +kernel) rfl⟩
theorem fp_X8_66 : yFp RX8 66 9 13 (.int) false := ⟨RX8, TX8, 16, tyX8, rfl, by decide, it_X8, yt_in 124 (by decide +kernel) rfl, tyX8_ok, nmX8, rfl, rfl, (fun h => by cases h)⟩
theorem fl_X8_69 : yFl RX8 69 9 14 := ⟨RX8, TX8, 16, rfl, by decide, it_X8, yt_in 125 (by decide +kernel) rfl⟩
theorem fp_X8_69 : yFp RX8 69 9 14 (.object "CrossingKeeper$Stage") false := ⟨RX8, TX8, 16, tyX8, rfl, by decide, it_X8, yt_in 125 (by decide +kernel) rfl, tyX8_ok, nmX8, rfl, rfl, (fun h => by cases h)⟩
theorem fl_X8_72 : yFl RX8 72 9 15 := ⟨RX8, TX8, 16, rfl, by decide, it_X8, yt_in 126 (by decide +kernel) rfl⟩
theorem fp_X8_72 : yFp RX8 72 9 15 (.int) false := ⟨RX8, TX8, 16, tyX8, rfl, by decide, it_X8, yt_in 126 (by decide +kernel) rfl, tyX8_ok, nmX8, rfl, rfl, (fun h => by cases h)⟩
theorem fl_X8_88 : yFl RX8 88 7 0 := ⟨RX6, TX6, 18, rfl, by decide, it_X6, yt_in 175 (by decide +kernel) rfl⟩
theorem fl_X8_127 : yFl RX8 127 8 0 := ⟨RX7, TX7, 2, rfl, by decide, it_X7, yt_in 358 (by decide +kernel) rfl⟩
theorem fl_X8_131 : yFl RX8 131 7 4 := ⟨RX6, TX6, 18, rfl, by decide, it_X6, yt_in 181 (by decide +kernel) rfl⟩
theorem fp_X8_131 : yFp RX8 131 7 4 (.object "CrossingKeeper$Detector") false := ⟨RX6, TX6, 18, tyX6, rfl, by decide, it_X6, yt_in 181 (by decide +kernel) rfl, tyX6_ok, nmX6, rfl, rfl, (fun h => by cases h)⟩
theorem fl_X8_135 : yFl RX8 135 2 0 := ⟨RX1, TX1, 4, rfl, by decide, it_X1, yt_in 393 (by decide +kernel) rfl⟩
theorem fl_X8_150 : yFl RX8 150 2 3 := ⟨RX1, TX1, 4, rfl, by decide, it_X1, yt_in 397 (by decide +kernel) rfl⟩
theorem fp_X8_150 : yFp RX8 150 2 3 (.int) false := ⟨RX1, TX1, 4, tyX1, rfl, by decide, it_X1, yt_in 397 (by decide +kernel) rfl, tyX1_ok, nmX1, rfl, rfl, (fun h => by cases h)⟩
theorem fl_X8_157 : yFl RX8 157 7 5 := ⟨RX6, TX6, 18, rfl, by decide, it_X6, yt_in 183 (by decide +kernel) rfl⟩
theorem fp_X8_157 : yFp RX8 157 7 5 (.boolean) false := ⟨RX6, TX6, 18, tyX6, rfl, by decide, it_X6, yt_in 183 (by decide +kernel) rfl, tyX6_ok, nmX6, rfl, rfl, (fun h => by cases h)⟩
theorem fl_X8_169 : yFl RX8 169 7 6 := ⟨RX6, TX6, 18, rfl, by decide, it_X6, yt_in 185 (by decide +kernel) rfl⟩
theorem fp_X8_169 : yFp RX8 169 7 6 (.int) false := ⟨RX6, TX6, 18, tyX6, rfl, by decide, it_X6, yt_in 185 (by decide +kernel) rfl, tyX6_ok, nmX6, rfl, rfl, (fun h => by cases h)⟩
theorem fl_X8_172 : yFl RX8 172 7 8 := ⟨RX6, TX6, 18, rfl, by decide, it_X6, yt_in 192 (by decide +kernel) rfl⟩
theorem fp_X8_172 : yFp RX8 172 7 8 (.int) false := ⟨RX6, TX6, 18, tyX6, rfl, by decide, it_X6, yt_in 192 (by decide +kernel) rfl, tyX6_ok, nmX6, rfl, rfl, (fun h => by cases h)⟩
theorem fl_X8_179 : yFl RX8 179 3 3 := ⟨RX2, TX2, 5, rfl, by decide, it_X2, yt_in 86 (by decide +kernel) rfl⟩
theorem fp_X8_179 : yFp RX8 179 3 3 (.int) false := ⟨RX2, TX2, 5, tyX2, rfl, by decide, it_X2, yt_in 86 (by decide +kernel) rfl, tyX2_ok, nmX2, rfl, rfl, (fun h => by cases h)⟩
theorem fl_X8_182 : yFl RX8 182 3 0 := ⟨RX2, TX2, 5, rfl, by decide, it_X2, yt_in 80 (by decide +kernel) rfl⟩
theorem fp_X8_182 : yFp RX8 182 3 0 (.int) false := ⟨RX2, TX2, 5, tyX2, rfl, by decide, it_X2, yt_in 80 (by decide +kernel) rfl, tyX2_ok, nmX2, rfl, rfl, (fun h => by cases h)⟩
theorem fl_X8_197 : yFl RX8 197 3 4 := ⟨RX2, TX2, 5, rfl, by decide, it_X2, yt_in 88 (by decide +kernel) rfl⟩
theorem fp_X8_197 : yFp RX8 197 3 4 (.boolean) false := ⟨RX2, TX2, 5, tyX2, rfl, by decide, it_X2, yt_in 88 (by decide +kernel) rfl, tyX2_ok, nmX2, rfl, rfl, (fun h => by cases h)⟩
theorem fl_X8_220 : yFl RX8 220 7 1 := ⟨RX6, TX6, 18, rfl, by decide, it_X6, yt_in 177 (by decide +kernel) rfl⟩
theorem fl_X8_223 : yFl RX8 223 7 16 := ⟨RX6, TX6, 18, rfl, by decide, it_X6, yt_in 214 (by decide +kernel) rfl⟩
theorem fp_X8_223 : yFp RX8 223 7 16 (.int) false := ⟨RX6, TX6, 18, tyX6, rfl, by decide, it_X6, yt_in 214 (by decide +kernel) rfl, tyX6_ok, nmX6, rfl, rfl, (fun h => by cases h)⟩
theorem fl_X8_226 : yFl RX8 226 7 17 := ⟨RX6, TX6, 18, rfl, by decide, it_X6, yt_in 216 (by decide +kernel) rfl⟩
theorem fp_X8_226 : yFp RX8 226 7 17 (.int) false := ⟨RX6, TX6, 18, tyX6, rfl, by decide, it_X6, yt_in 216 (by decide +kernel) rfl, tyX6_ok, nmX6, rfl, rfl, (fun h => by cases h)⟩
theorem fl_X8_229 : yFl RX8 229 7 14 := ⟨RX6, TX6, 18, rfl, by decide, it_X6, yt_in 210 (by decide +kernel) rfl⟩
theorem fp_X8_229 : yFp RX8 229 7 14 (.int) false := ⟨RX6, TX6, 18, tyX6, rfl, by decide, it_X6, yt_in 210 (by decide +kernel) rfl, tyX6_ok, nmX6, rfl, rfl, (fun h => by cases h)⟩
theorem fl_X8_232 : yFl RX8 232 7 15 := ⟨RX6, TX6, 18, rfl, by decide, it_X6, yt_in 212 (by decide +kernel) rfl⟩
theorem fp_X8_232 : yFp RX8 232 7 15 (.int) false := ⟨RX6, TX6, 18, tyX6, rfl, by decide, it_X6, yt_in 212 (by decide +kernel) rfl, tyX6_ok, nmX6, rfl, rfl, (fun h => by cases h)⟩
theorem fl_X8_235 : yFl RX8 235 7 9 := ⟨RX6, TX6, 18, rfl, by decide, it_X6, yt_in 194 (by decide +kernel) rfl⟩
theorem fp_X8_235 : yFp RX8 235 7 9 (.int) false := ⟨RX6, TX6, 18, tyX6, rfl, by decide, it_X6, yt_in 194 (by decide +kernel) rfl, tyX6_ok, nmX6, rfl, rfl, (fun h => by cases h)⟩
theorem fl_X8_238 : yFl RX8 238 7 10 := ⟨RX6, TX6, 18, rfl, by decide, it_X6, yt_in 197 (by decide +kernel) rfl⟩
theorem fp_X8_238 : yFp RX8 238 7 10 (.int) false := ⟨RX6, TX6, 18, tyX6, rfl, by decide, it_X6, yt_in 197 (by decide +kernel) rfl, tyX6_ok, nmX6, rfl, rfl, (fun h => by cases h)⟩
theorem fl_X8_241 : yFl RX8 241 7 11 := ⟨RX6, TX6, 18, rfl, by decide, it_X6, yt_in 201 (by decide +kernel) rfl⟩
theorem fp_X8_241 : yFp RX8 241 7 11 (.int) false := ⟨RX6, TX6, 18, tyX6, rfl, by decide, it_X6, yt_in 201 (by decide +kernel) rfl, tyX6_ok, nmX6, rfl, rfl, (fun h => by cases h)⟩
theorem fl_X8_244 : yFl RX8 244 7 12 := ⟨RX6, TX6, 18, rfl, by decide, it_X6, yt_in 205 (by decide +kernel) rfl⟩
theorem fp_X8_244 : yFp RX8 244 7 12 (.int) false := ⟨RX6, TX6, 18, tyX6, rfl, by decide, it_X6, yt_in 205 (by decide +kernel) rfl, tyX6_ok, nmX6, rfl, rfl, (fun h => by cases h)⟩
theorem fl_X8_247 : yFl RX8 247 7 13 := ⟨RX6, TX6, 18, rfl, by decide, it_X6, yt_in 208 (by decide +kernel) rfl⟩
theorem fp_X8_247 : yFp RX8 247 7 13 (.int) false := ⟨RX6, TX6, 18, tyX6, rfl, by decide, it_X6, yt_in 208 (by decide +kernel) rfl, tyX6_ok, nmX6, rfl, rfl, (fun h => by cases h)⟩
theorem fl_X8_265 : yFl RX8 265 4 1 := ⟨RX3, TX3, 3, rfl, by decide, it_X3, yt_in 62 (by decide +kernel) rfl⟩
theorem fp_X8_265 : yFp RX8 265 4 1 (.int) false := ⟨RX3, TX3, 3, tyX3, rfl, by decide, it_X3, yt_in 62 (by decide +kernel) rfl, tyX3_ok, nmX3, rfl, rfl, (fun h => by cases h)⟩
theorem fl_X8_268 : yFl RX8 268 4 2 := ⟨RX3, TX3, 3, rfl, by decide, it_X3, yt_in 64 (by decide +kernel) rfl⟩
theorem fp_X8_268 : yFp RX8 268 4 2 (.int) false := ⟨RX3, TX3, 3, tyX3, rfl, by decide, it_X3, yt_in 64 (by decide +kernel) rfl, tyX3_ok, nmX3, rfl, rfl, (fun h => by cases h)⟩
theorem fl_X8_271 : yFl RX8 271 3 1 := ⟨RX2, TX2, 5, rfl, by decide, it_X2, yt_in 82 (by decide +kernel) rfl⟩
theorem fp_X8_271 : yFp RX8 271 3 1 (.int) false := ⟨RX2, TX2, 5, tyX2, rfl, by decide, it_X2, yt_in 82 (by decide +kernel) rfl, tyX2_ok, nmX2, rfl, rfl, (fun h => by cases h)⟩
theorem fl_X8_272 : yFl RX8 272 3 2 := ⟨RX2, TX2, 5, rfl, by decide, it_X2, yt_in 84 (by decide +kernel) rfl⟩
theorem fp_X8_272 : yFp RX8 272 3 2 (.int) false := ⟨RX2, TX2, 5, tyX2, rfl, by decide, it_X2, yt_in 84 (by decide +kernel) rfl, tyX2_ok, nmX2, rfl, rfl, (fun h => by cases h)⟩
theorem fl_X8_275 : yFl RX8 275 1 0 := ⟨RX0, TX0, 1, rfl, by decide, it_X0, yt_in 107 (by decide +kernel) rfl⟩
theorem fp_X8_275 : yFp RX8 275 1 0 (.int) false := ⟨RX0, TX0, 1, tyX0, rfl, by decide, it_X0, yt_in 107 (by decide +kernel) rfl, tyX0_ok, nmX0, rfl, rfl, (fun h => by cases h)⟩
theorem fl_X8_278 : yFl RX8 278 5 4 := ⟨RX4, TX4, 5, rfl, by decide, it_X4, yt_in 449 (by decide +kernel) rfl⟩
theorem fl_X8_324 : yFl RX8 324 7 7 := ⟨RX6, TX6, 18, rfl, by decide, it_X6, yt_in 189 (by decide +kernel) rfl⟩
theorem fp_X8_324 : yFp RX8 324 7 7 (.boolean) false := ⟨RX6, TX6, 18, tyX6, rfl, by decide, it_X6, yt_in 189 (by decide +kernel) rfl, tyX6_ok, nmX6, rfl, rfl, (fun h => by cases h)⟩
theorem fl_X8_352 : yFl RX8 352 8 1 := ⟨RX7, TX7, 2, rfl, by decide, it_X7, yt_in 360 (by decide +kernel) rfl⟩
theorem fl_X0_9 : yFl RX0 9 1 0 := ⟨RX0, TX0, 1, rfl, by decide, it_X0, yt_in 106 (by decide +kernel) rfl⟩
theorem fp_X0_9 : yFp RX0 9 1 0 (.int) false := ⟨RX0, TX0, 1, tyX0, rfl, by decide, it_X0, yt_in 106 (by decide +kernel) rfl, tyX0_ok, nmX0, rfl, rfl, (fun h => by cases h)⟩
theorem fl_X1_9 : yFl RX1 9 2 1 := ⟨RX1, TX1, 4, rfl, by decide, it_X1, yt_in 394 (by decide +kernel) rfl⟩
theorem fp_X1_9 : yFp RX1 9 2 1 (.array .byte) false := ⟨RX1, TX1, 4, tyX1, rfl, by decide, it_X1, yt_in 394 (by decide +kernel) rfl, tyX1_ok, nmX1, rfl, rfl, (fun h => by cases h)⟩
theorem fl_X1_15 : yFl RX1 15 2 2 := ⟨RX1, TX1, 4, rfl, by decide, it_X1, yt_in 395 (by decide +kernel) rfl⟩
theorem fp_X1_15 : yFp RX1 15 2 2 (.array .short) false := ⟨RX1, TX1, 4, tyX1, rfl, by decide, it_X1, yt_in 395 (by decide +kernel) rfl, tyX1_ok, nmX1, rfl, rfl, (fun h => by cases h)⟩
theorem fl_X1_19 : yFl RX1 19 2 3 := ⟨RX1, TX1, 4, rfl, by decide, it_X1, yt_in 396 (by decide +kernel) rfl⟩
theorem fp_X1_19 : yFp RX1 19 2 3 (.int) false := ⟨RX1, TX1, 4, tyX1, rfl, by decide, it_X1, yt_in 396 (by decide +kernel) rfl, tyX1_ok, nmX1, rfl, rfl, (fun h => by cases h)⟩
theorem fl_X1_23 : yFl RX1 23 2 0 := ⟨RX1, TX1, 4, rfl, by decide, it_X1, yt_in 392 (by decide +kernel) rfl⟩
theorem fp_X1_23 : yFp RX1 23 2 0 (.int) true := ⟨RX1, TX1, 4, tyX1, rfl, by decide, it_X1, yt_in 392 (by decide +kernel) rfl, tyX1_ok, nmX1, rfl, rfl, (fun _ => rfl)⟩
theorem fl_X2_9 : yFl RX2 9 3 0 := ⟨RX2, TX2, 5, rfl, by decide, it_X2, yt_in 79 (by decide +kernel) rfl⟩
theorem fp_X2_9 : yFp RX2 9 3 0 (.int) false := ⟨RX2, TX2, 5, tyX2, rfl, by decide, it_X2, yt_in 79 (by decide +kernel) rfl, tyX2_ok, nmX2, rfl, rfl, (fun h => by cases h)⟩
theorem fl_X2_15 : yFl RX2 15 3 1 := ⟨RX2, TX2, 5, rfl, by decide, it_X2, yt_in 81 (by decide +kernel) rfl⟩
theorem fp_X2_15 : yFp RX2 15 3 1 (.int) false := ⟨RX2, TX2, 5, tyX2, rfl, by decide, it_X2, yt_in 81 (by decide +kernel) rfl, tyX2_ok, nmX2, rfl, rfl, (fun h => by cases h)⟩
theorem fl_X2_18 : yFl RX2 18 3 2 := ⟨RX2, TX2, 5, rfl, by decide, it_X2, yt_in 83 (by decide +kernel) rfl⟩
theorem fp_X2_18 : yFp RX2 18 3 2 (.int) false := ⟨RX2, TX2, 5, tyX2, rfl, by decide, it_X2, yt_in 83 (by decide +kernel) rfl, tyX2_ok, nmX2, rfl, rfl, (fun h => by cases h)⟩
theorem fl_X2_21 : yFl RX2 21 3 3 := ⟨RX2, TX2, 5, rfl, by decide, it_X2, yt_in 85 (by decide +kernel) rfl⟩
theorem fp_X2_21 : yFp RX2 21 3 3 (.int) false := ⟨RX2, TX2, 5, tyX2, rfl, by decide, it_X2, yt_in 85 (by decide +kernel) rfl, tyX2_ok, nmX2, rfl, rfl, (fun h => by cases h)⟩
theorem fl_X2_24 : yFl RX2 24 3 4 := ⟨RX2, TX2, 5, rfl, by decide, it_X2, yt_in 87 (by decide +kernel) rfl⟩
theorem fp_X2_24 : yFp RX2 24 3 4 (.boolean) false := ⟨RX2, TX2, 5, tyX2, rfl, by decide, it_X2, yt_in 87 (by decide +kernel) rfl, tyX2_ok, nmX2, rfl, rfl, (fun h => by cases h)⟩
theorem fl_X3_9 : yFl RX3 9 4 0 := ⟨RX3, TX3, 3, rfl, by decide, it_X3, yt_in 60 (by decide +kernel) rfl⟩
theorem fp_X3_9 : yFp RX3 9 4 0 (.array .int) true := ⟨RX3, TX3, 3, tyX3, rfl, by decide, it_X3, yt_in 60 (by decide +kernel) rfl, tyX3_ok, nmX3, rfl, rfl, (fun _ => rfl)⟩
theorem fl_X3_15 : yFl RX3 15 4 1 := ⟨RX3, TX3, 3, rfl, by decide, it_X3, yt_in 61 (by decide +kernel) rfl⟩
theorem fp_X3_15 : yFp RX3 15 4 1 (.int) false := ⟨RX3, TX3, 3, tyX3, rfl, by decide, it_X3, yt_in 61 (by decide +kernel) rfl, tyX3_ok, nmX3, rfl, rfl, (fun h => by cases h)⟩
theorem fl_X3_19 : yFl RX3 19 4 2 := ⟨RX3, TX3, 3, rfl, by decide, it_X3, yt_in 63 (by decide +kernel) rfl⟩
theorem fp_X3_19 : yFp RX3 19 4 2 (.int) false := ⟨RX3, TX3, 3, tyX3, rfl, by decide, it_X3, yt_in 63 (by decide +kernel) rfl, tyX3_ok, nmX3, rfl, rfl, (fun h => by cases h)⟩
theorem fl_X4_7 : yFl RX4 7 5 0 := ⟨RX4, TX4, 5, rfl, by decide, it_X4, yt_in 444 (by decide +kernel) rfl⟩
theorem fp_X4_7 : yFp RX4 7 5 0 (.object "CrossingKeeper$Phase") true := ⟨RX4, TX4, 5, tyX4, rfl, by decide, it_X4, yt_in 444 (by decide +kernel) rfl, tyX4_ok, nmX4, rfl, rfl, (fun _ => rfl)⟩
theorem fl_X4_13 : yFl RX4 13 5 1 := ⟨RX4, TX4, 5, rfl, by decide, it_X4, yt_in 445 (by decide +kernel) rfl⟩
theorem fp_X4_13 : yFp RX4 13 5 1 (.int) true := ⟨RX4, TX4, 5, tyX4, rfl, by decide, it_X4, yt_in 445 (by decide +kernel) rfl, tyX4_ok, nmX4, rfl, rfl, (fun _ => rfl)⟩
theorem fl_X4_17 : yFl RX4 17 5 2 := ⟨RX4, TX4, 5, rfl, by decide, it_X4, yt_in 446 (by decide +kernel) rfl⟩
theorem fp_X4_17 : yFp RX4 17 5 2 (.int) true := ⟨RX4, TX4, 5, tyX4, rfl, by decide, it_X4, yt_in 446 (by decide +kernel) rfl, tyX4_ok, nmX4, rfl, rfl, (fun _ => rfl)⟩
theorem fl_X4_20 : yFl RX4 20 5 3 := ⟨RX4, TX4, 5, rfl, by decide, it_X4, yt_in 447 (by decide +kernel) rfl⟩
theorem fp_X4_20 : yFp RX4 20 5 3 (.int) true := ⟨RX4, TX4, 5, tyX4, rfl, by decide, it_X4, yt_in 447 (by decide +kernel) rfl, tyX4_ok, nmX4, rfl, rfl, (fun _ => rfl)⟩
theorem fl_X4_23 : yFl RX4 23 5 4 := ⟨RX4, TX4, 5, rfl, by decide, it_X4, yt_in 448 (by decide +kernel) rfl⟩
theorem fp_X4_23 : yFp RX4 23 5 4 (.int) true := ⟨RX4, TX4, 5, tyX4, rfl, by decide, it_X4, yt_in 448 (by decide +kernel) rfl, tyX4_ok, nmX4, rfl, rfl, (fun _ => rfl)⟩
theorem fl_X4_26 : yFl RX4 26 7 11 := ⟨RX6, TX6, 18, rfl, by decide, it_X6, yt_in 199 (by decide +kernel) rfl⟩
theorem fp_X4_26 : yFp RX4 26 7 11 (.int) false := ⟨RX6, TX6, 18, tyX6, rfl, by decide, it_X6, yt_in 199 (by decide +kernel) rfl, tyX6_ok, nmX6, rfl, rfl, (fun h => by cases h)⟩
theorem fl_X4_29 : yFl RX4 29 7 12 := ⟨RX6, TX6, 18, rfl, by decide, it_X6, yt_in 203 (by decide +kernel) rfl⟩
theorem fp_X4_29 : yFp RX4 29 7 12 (.int) false := ⟨RX6, TX6, 18, tyX6, rfl, by decide, it_X6, yt_in 203 (by decide +kernel) rfl, tyX6_ok, nmX6, rfl, rfl, (fun h => by cases h)⟩
theorem fl_X4_30 : yFl RX4 30 7 13 := ⟨RX6, TX6, 18, rfl, by decide, it_X6, yt_in 207 (by decide +kernel) rfl⟩
theorem fp_X4_30 : yFp RX4 30 7 13 (.int) false := ⟨RX6, TX6, 18, tyX6, rfl, by decide, it_X6, yt_in 207 (by decide +kernel) rfl, tyX6_ok, nmX6, rfl, rfl, (fun h => by cases h)⟩
theorem fl_X5_7 : yFl RX5 7 6 3 := ⟨RX5, TX5, 4, rfl, by decide, it_X5, yt_in 478 (by decide +kernel) rfl⟩
theorem fp_X5_7 : yFp RX5 7 6 3 (.int) false := ⟨RX5, TX5, 4, tyX5, rfl, by decide, it_X5, yt_in 478 (by decide +kernel) rfl, tyX5_ok, nmX5, rfl, rfl, (fun h => by cases h)⟩
theorem fl_X5_13 : yFl RX5 13 6 0 := ⟨RX5, TX5, 4, rfl, by decide, it_X5, yt_in 475 (by decide +kernel) rfl⟩
theorem fp_X5_13 : yFp RX5 13 6 0 (.object "CrossingKeeper$Detector") true := ⟨RX5, TX5, 4, tyX5, rfl, by decide, it_X5, yt_in 475 (by decide +kernel) rfl, tyX5_ok, nmX5, rfl, rfl, (fun _ => rfl)⟩
theorem fl_X5_17 : yFl RX5 17 6 1 := ⟨RX5, TX5, 4, rfl, by decide, it_X5, yt_in 476 (by decide +kernel) rfl⟩
theorem fp_X5_17 : yFp RX5 17 6 1 (.object "CrossingKeeper$Detector") true := ⟨RX5, TX5, 4, tyX5, rfl, by decide, it_X5, yt_in 476 (by decide +kernel) rfl, tyX5_ok, nmX5, rfl, rfl, (fun _ => rfl)⟩
theorem fl_X5_20 : yFl RX5 20 6 2 := ⟨RX5, TX5, 4, rfl, by decide, it_X5, yt_in 477 (by decide +kernel) rfl⟩
theorem fp_X5_20 : yFp RX5 20 6 2 (.int) true := ⟨RX5, TX5, 4, tyX5, rfl, by decide, it_X5, yt_in 477 (by decide +kernel) rfl, tyX5_ok, nmX5, rfl, rfl, (fun _ => rfl)⟩
theorem fl_X6_9 : yFl RX6 9 7 2 := ⟨RX6, TX6, 18, rfl, by decide, it_X6, yt_in 178 (by decide +kernel) rfl⟩
theorem fp_X6_9 : yFp RX6 9 7 2 (.array .int) true := ⟨RX6, TX6, 18, tyX6, rfl, by decide, it_X6, yt_in 178 (by decide +kernel) rfl, tyX6_ok, nmX6, rfl, rfl, (fun _ => rfl)⟩
theorem fl_X6_15 : yFl RX6 15 7 3 := ⟨RX6, TX6, 18, rfl, by decide, it_X6, yt_in 179 (by decide +kernel) rfl⟩
theorem fp_X6_15 : yFp RX6 15 7 3 (.array .int) true := ⟨RX6, TX6, 18, tyX6, rfl, by decide, it_X6, yt_in 179 (by decide +kernel) rfl, tyX6_ok, nmX6, rfl, rfl, (fun _ => rfl)⟩
theorem fl_X6_18 : yFl RX6 18 7 4 := ⟨RX6, TX6, 18, rfl, by decide, it_X6, yt_in 180 (by decide +kernel) rfl⟩
theorem fp_X6_18 : yFp RX6 18 7 4 (.object "CrossingKeeper$Detector") false := ⟨RX6, TX6, 18, tyX6, rfl, by decide, it_X6, yt_in 180 (by decide +kernel) rfl, tyX6_ok, nmX6, rfl, rfl, (fun h => by cases h)⟩
theorem fl_X6_22 : yFl RX6 22 7 5 := ⟨RX6, TX6, 18, rfl, by decide, it_X6, yt_in 182 (by decide +kernel) rfl⟩
theorem fp_X6_22 : yFp RX6 22 7 5 (.boolean) false := ⟨RX6, TX6, 18, tyX6, rfl, by decide, it_X6, yt_in 182 (by decide +kernel) rfl, tyX6_ok, nmX6, rfl, rfl, (fun h => by cases h)⟩
theorem fl_X6_26 : yFl RX6 26 7 6 := ⟨RX6, TX6, 18, rfl, by decide, it_X6, yt_in 184 (by decide +kernel) rfl⟩
theorem fp_X6_26 : yFp RX6 26 7 6 (.int) false := ⟨RX6, TX6, 18, tyX6, rfl, by decide, it_X6, yt_in 184 (by decide +kernel) rfl, tyX6_ok, nmX6, rfl, rfl, (fun h => by cases h)⟩
theorem fl_X6_30 : yFl RX6 30 7 7 := ⟨RX6, TX6, 18, rfl, by decide, it_X6, yt_in 187 (by decide +kernel) rfl⟩
theorem fp_X6_30 : yFp RX6 30 7 7 (.boolean) false := ⟨RX6, TX6, 18, tyX6, rfl, by decide, it_X6, yt_in 187 (by decide +kernel) rfl, tyX6_ok, nmX6, rfl, rfl, (fun h => by cases h)⟩
theorem fl_X6_33 : yFl RX6 33 7 8 := ⟨RX6, TX6, 18, rfl, by decide, it_X6, yt_in 190 (by decide +kernel) rfl⟩
theorem fp_X6_33 : yFp RX6 33 7 8 (.int) false := ⟨RX6, TX6, 18, tyX6, rfl, by decide, it_X6, yt_in 190 (by decide +kernel) rfl, tyX6_ok, nmX6, rfl, rfl, (fun h => by cases h)⟩
theorem fl_X6_36 : yFl RX6 36 7 9 := ⟨RX6, TX6, 18, rfl, by decide, it_X6, yt_in 193 (by decide +kernel) rfl⟩
theorem fp_X6_36 : yFp RX6 36 7 9 (.int) false := ⟨RX6, TX6, 18, tyX6, rfl, by decide, it_X6, yt_in 193 (by decide +kernel) rfl, tyX6_ok, nmX6, rfl, rfl, (fun h => by cases h)⟩
theorem fl_X6_39 : yFl RX6 39 7 10 := ⟨RX6, TX6, 18, rfl, by decide, it_X6, yt_in 195 (by decide +kernel) rfl⟩
theorem fp_X6_39 : yFp RX6 39 7 10 (.int) false := ⟨RX6, TX6, 18, tyX6, rfl, by decide, it_X6, yt_in 195 (by decide +kernel) rfl, tyX6_ok, nmX6, rfl, rfl, (fun h => by cases h)⟩
theorem fl_X6_42 : yFl RX6 42 7 11 := ⟨RX6, TX6, 18, rfl, by decide, it_X6, yt_in 198 (by decide +kernel) rfl⟩
theorem fp_X6_42 : yFp RX6 42 7 11 (.int) false := ⟨RX6, TX6, 18, tyX6, rfl, by decide, it_X6, yt_in 198 (by decide +kernel) rfl, tyX6_ok, nmX6, rfl, rfl, (fun h => by cases h)⟩
theorem fl_X6_45 : yFl RX6 45 7 12 := ⟨RX6, TX6, 18, rfl, by decide, it_X6, yt_in 202 (by decide +kernel) rfl⟩
theorem fp_X6_45 : yFp RX6 45 7 12 (.int) false := ⟨RX6, TX6, 18, tyX6, rfl, by decide, it_X6, yt_in 202 (by decide +kernel) rfl, tyX6_ok, nmX6, rfl, rfl, (fun h => by cases h)⟩
theorem fl_X6_48 : yFl RX6 48 7 13 := ⟨RX6, TX6, 18, rfl, by decide, it_X6, yt_in 206 (by decide +kernel) rfl⟩
theorem fp_X6_48 : yFp RX6 48 7 13 (.int) false := ⟨RX6, TX6, 18, tyX6, rfl, by decide, it_X6, yt_in 206 (by decide +kernel) rfl, tyX6_ok, nmX6, rfl, rfl, (fun h => by cases h)⟩
theorem fl_X6_51 : yFl RX6 51 7 14 := ⟨RX6, TX6, 18, rfl, by decide, it_X6, yt_in 209 (by decide +kernel) rfl⟩
theorem fp_X6_51 : yFp RX6 51 7 14 (.int) false := ⟨RX6, TX6, 18, tyX6, rfl, by decide, it_X6, yt_in 209 (by decide +kernel) rfl, tyX6_ok, nmX6, rfl, rfl, (fun h => by cases h)⟩
theorem fl_X6_54 : yFl RX6 54 7 15 := ⟨RX6, TX6, 18, rfl, by decide, it_X6, yt_in 211 (by decide +kernel) rfl⟩
theorem fp_X6_54 : yFp RX6 54 7 15 (.int) false := ⟨RX6, TX6, 18, tyX6, rfl, by decide, it_X6, yt_in 211 (by decide +kernel) rfl, tyX6_ok, nmX6, rfl, rfl, (fun h => by cases h)⟩
theorem fl_X6_57 : yFl RX6 57 7 16 := ⟨RX6, TX6, 18, rfl, by decide, it_X6, yt_in 213 (by decide +kernel) rfl⟩
theorem fp_X6_57 : yFp RX6 57 7 16 (.int) false := ⟨RX6, TX6, 18, tyX6, rfl, by decide, it_X6, yt_in 213 (by decide +kernel) rfl, tyX6_ok, nmX6, rfl, rfl, (fun h => by cases h)⟩
theorem fl_X6_60 : yFl RX6 60 7 17 := ⟨RX6, TX6, 18, rfl, by decide, it_X6, yt_in 215 (by decide +kernel) rfl⟩
theorem fp_X6_60 : yFp RX6 60 7 17 (.int) false := ⟨RX6, TX6, 18, tyX6, rfl, by decide, it_X6, yt_in 215 (by decide +kernel) rfl, tyX6_ok, nmX6, rfl, rfl, (fun h => by cases h)⟩
theorem fl_X6_63 : yFl RX6 63 7 0 := ⟨RX6, TX6, 18, rfl, by decide, it_X6, yt_in 174 (by decide +kernel) rfl⟩
theorem fp_X6_63 : yFp RX6 63 7 0 (.int) true := ⟨RX6, TX6, 18, tyX6, rfl, by decide, it_X6, yt_in 174 (by decide +kernel) rfl, tyX6_ok, nmX6, rfl, rfl, (fun _ => rfl)⟩
theorem fl_X6_66 : yFl RX6 66 7 1 := ⟨RX6, TX6, 18, rfl, by decide, it_X6, yt_in 176 (by decide +kernel) rfl⟩
theorem fp_X6_66 : yFp RX6 66 7 1 (.int) true := ⟨RX6, TX6, 18, tyX6, rfl, by decide, it_X6, yt_in 176 (by decide +kernel) rfl, tyX6_ok, nmX6, rfl, rfl, (fun _ => rfl)⟩
theorem fl_X7_11 : yFl RX7 11 8 1 := ⟨RX7, TX7, 2, rfl, by decide, it_X7, yt_in 359 (by decide +kernel) rfl⟩
theorem fp_X7_11 : yFp RX7 11 8 1 (.array (.object "CrossingKeeper$Phase")) true := ⟨RX7, TX7, 2, tyX7, rfl, by decide, it_X7, yt_in 359 (by decide +kernel) rfl, tyX7_ok, nmX7, rfl, rfl, (fun _ => rfl)⟩
theorem fl_X7_17 : yFl RX7 17 8 0 := ⟨RX7, TX7, 2, rfl, by decide, it_X7, yt_in 357 (by decide +kernel) rfl⟩
theorem fp_X7_17 : yFp RX7 17 8 0 (.int) true := ⟨RX7, TX7, 2, tyX7, rfl, by decide, it_X7, yt_in 357 (by decide +kernel) rfl, tyX7_ok, nmX7, rfl, rfl, (fun _ => rfl)⟩
theorem fl_X7_25 : yFl RX7 25 7 11 := ⟨RX6, TX6, 18, rfl, by decide, it_X6, yt_in 200 (by decide +kernel) rfl⟩
theorem fp_X7_25 : yFp RX7 25 7 11 (.int) false := ⟨RX6, TX6, 18, tyX6, rfl, by decide, it_X6, yt_in 200 (by decide +kernel) rfl, tyX6_ok, nmX6, rfl, rfl, (fun h => by cases h)⟩
theorem fl_X7_34 : yFl RX7 34 7 12 := ⟨RX6, TX6, 18, rfl, by decide, it_X6, yt_in 204 (by decide +kernel) rfl⟩
theorem fp_X7_34 : yFp RX7 34 7 12 (.int) false := ⟨RX6, TX6, 18, tyX6, rfl, by decide, it_X6, yt_in 204 (by decide +kernel) rfl, tyX6_ok, nmX6, rfl, rfl, (fun h => by cases h)⟩
theorem fl_X7_44 : yFl RX7 44 7 7 := ⟨RX6, TX6, 18, rfl, by decide, it_X6, yt_in 188 (by decide +kernel) rfl⟩
theorem fp_X7_44 : yFp RX7 44 7 7 (.boolean) false := ⟨RX6, TX6, 18, tyX6, rfl, by decide, it_X6, yt_in 188 (by decide +kernel) rfl, tyX6_ok, nmX6, rfl, rfl, (fun h => by cases h)⟩
theorem fl_X7_52 : yFl RX7 52 7 8 := ⟨RX6, TX6, 18, rfl, by decide, it_X6, yt_in 191 (by decide +kernel) rfl⟩
theorem fp_X7_52 : yFp RX7 52 7 8 (.int) false := ⟨RX6, TX6, 18, tyX6, rfl, by decide, it_X6, yt_in 191 (by decide +kernel) rfl, tyX6_ok, nmX6, rfl, rfl, (fun h => by cases h)⟩
theorem fl_X7_55 : yFl RX7 55 7 6 := ⟨RX6, TX6, 18, rfl, by decide, it_X6, yt_in 186 (by decide +kernel) rfl⟩
theorem fp_X7_55 : yFp RX7 55 7 6 (.int) false := ⟨RX6, TX6, 18, tyX6, rfl, by decide, it_X6, yt_in 186 (by decide +kernel) rfl, tyX6_ok, nmX6, rfl, rfl, (fun h => by cases h)⟩
theorem fl_X7_58 : yFl RX7 58 7 10 := ⟨RX6, TX6, 18, rfl, by decide, it_X6, yt_in 196 (by decide +kernel) rfl⟩
theorem fp_X7_58 : yFp RX7 58 7 10 (.int) false := ⟨RX6, TX6, 18, tyX6, rfl, by decide, it_X6, yt_in 196 (by decide +kernel) rfl, tyX6_ok, nmX6, rfl, rfl, (fun h => by cases h)⟩
theorem fl_X9_7 : yFl RX9 7 10 2 := ⟨RX9, TX9, 53, rfl, by decide, it_X9, yt_in 798 (by decide +kernel) rfl⟩
theorem fp_X9_7 : yFp RX9 7 10 2 (.array .int) true := ⟨RX9, TX9, 53, tyX9, rfl, by decide, it_X9, yt_in 798 (by decide +kernel) rfl, tyX9_ok, nmX9, rfl, rfl, (fun _ => rfl)⟩
theorem fl_X9_13 : yFl RX9 13 10 3 := ⟨RX9, TX9, 53, rfl, by decide, it_X9, yt_in 799 (by decide +kernel) rfl⟩
theorem fp_X9_13 : yFp RX9 13 10 3 (.array .int) true := ⟨RX9, TX9, 53, tyX9, rfl, by decide, it_X9, yt_in 799 (by decide +kernel) rfl, tyX9_ok, nmX9, rfl, rfl, (fun _ => rfl)⟩
theorem fl_X9_16 : yFl RX9 16 10 4 := ⟨RX9, TX9, 53, rfl, by decide, it_X9, yt_in 800 (by decide +kernel) rfl⟩
theorem fp_X9_16 : yFp RX9 16 10 4 (.array .int) true := ⟨RX9, TX9, 53, tyX9, rfl, by decide, it_X9, yt_in 800 (by decide +kernel) rfl, tyX9_ok, nmX9, rfl, rfl, (fun _ => rfl)⟩
theorem fl_X9_19 : yFl RX9 19 10 5 := ⟨RX9, TX9, 53, rfl, by decide, it_X9, yt_in 801 (by decide +kernel) rfl⟩
theorem fp_X9_19 : yFp RX9 19 10 5 (.array .int) true := ⟨RX9, TX9, 53, tyX9, rfl, by decide, it_X9, yt_in 801 (by decide +kernel) rfl, tyX9_ok, nmX9, rfl, rfl, (fun _ => rfl)⟩
theorem fl_X9_22 : yFl RX9 22 10 6 := ⟨RX9, TX9, 53, rfl, by decide, it_X9, yt_in 802 (by decide +kernel) rfl⟩
theorem fp_X9_22 : yFp RX9 22 10 6 (.array .int) true := ⟨RX9, TX9, 53, tyX9, rfl, by decide, it_X9, yt_in 802 (by decide +kernel) rfl, tyX9_ok, nmX9, rfl, rfl, (fun _ => rfl)⟩
theorem fl_X9_25 : yFl RX9 25 10 7 := ⟨RX9, TX9, 53, rfl, by decide, it_X9, yt_in 803 (by decide +kernel) rfl⟩
theorem fp_X9_25 : yFp RX9 25 10 7 (.array .int) true := ⟨RX9, TX9, 53, tyX9, rfl, by decide, it_X9, yt_in 803 (by decide +kernel) rfl, tyX9_ok, nmX9, rfl, rfl, (fun _ => rfl)⟩
theorem fl_X9_28 : yFl RX9 28 10 8 := ⟨RX9, TX9, 53, rfl, by decide, it_X9, yt_in 804 (by decide +kernel) rfl⟩
theorem fp_X9_28 : yFp RX9 28 10 8 (.array .int) true := ⟨RX9, TX9, 53, tyX9, rfl, by decide, it_X9, yt_in 804 (by decide +kernel) rfl, tyX9_ok, nmX9, rfl, rfl, (fun _ => rfl)⟩
theorem fl_X9_31 : yFl RX9 31 10 9 := ⟨RX9, TX9, 53, rfl, by decide, it_X9, yt_in 805 (by decide +kernel) rfl⟩
theorem fp_X9_31 : yFp RX9 31 10 9 (.array .int) true := ⟨RX9, TX9, 53, tyX9, rfl, by decide, it_X9, yt_in 805 (by decide +kernel) rfl, tyX9_ok, nmX9, rfl, rfl, (fun _ => rfl)⟩
theorem fl_X9_34 : yFl RX9 34 10 10 := ⟨RX9, TX9, 53, rfl, by decide, it_X9, yt_in 806 (by decide +kernel) rfl⟩
theorem fp_X9_34 : yFp RX9 34 10 10 (.array .int) true := ⟨RX9, TX9, 53, tyX9, rfl, by decide, it_X9, yt_in 806 (by decide +kernel) rfl, tyX9_ok, nmX9, rfl, rfl, (fun _ => rfl)⟩
theorem fl_X9_37 : yFl RX9 37 10 11 := ⟨RX9, TX9, 53, rfl, by decide, it_X9, yt_in 807 (by decide +kernel) rfl⟩
theorem fp_X9_37 : yFp RX9 37 10 11 (.array .int) true := ⟨RX9, TX9, 53, tyX9, rfl, by decide, it_X9, yt_in 807 (by decide +kernel) rfl, tyX9_ok, nmX9, rfl, rfl, (fun _ => rfl)⟩
theorem fl_X9_40 : yFl RX9 40 10 12 := ⟨RX9, TX9, 53, rfl, by decide, it_X9, yt_in 808 (by decide +kernel) rfl⟩
theorem fp_X9_40 : yFp RX9 40 10 12 (.array .int) true := ⟨RX9, TX9, 53, tyX9, rfl, by decide, it_X9, yt_in 808 (by decide +kernel) rfl, tyX9_ok, nmX9, rfl, rfl, (fun _ => rfl)⟩
theorem fl_X9_43 : yFl RX9 43 10 13 := ⟨RX9, TX9, 53, rfl, by decide, it_X9, yt_in 809 (by decide +kernel) rfl⟩
theorem fp_X9_43 : yFp RX9 43 10 13 (.array .int) true := ⟨RX9, TX9, 53, tyX9, rfl, by decide, it_X9, yt_in 809 (by decide +kernel) rfl, tyX9_ok, nmX9, rfl, rfl, (fun _ => rfl)⟩
theorem fl_X9_46 : yFl RX9 46 10 14 := ⟨RX9, TX9, 53, rfl, by decide, it_X9, yt_in 810 (by decide +kernel) rfl⟩
theorem fp_X9_46 : yFp RX9 46 10 14 (.array .boolean) true := ⟨RX9, TX9, 53, tyX9, rfl, by decide, it_X9, yt_in 810 (by decide +kernel) rfl, tyX9_ok, nmX9, rfl, rfl, (fun _ => rfl)⟩
theorem fl_X9_50 : yFl RX9 50 10 15 := ⟨RX9, TX9, 53, rfl, by decide, it_X9, yt_in 811 (by decide +kernel) rfl⟩
theorem fp_X9_50 : yFp RX9 50 10 15 (.array .boolean) true := ⟨RX9, TX9, 53, tyX9, rfl, by decide, it_X9, yt_in 811 (by decide +kernel) rfl, tyX9_ok, nmX9, rfl, rfl, (fun _ => rfl)⟩
theorem fl_X9_53 : yFl RX9 53 10 16 := ⟨RX9, TX9, 53, rfl, by decide, it_X9, yt_in 812 (by decide +kernel) rfl⟩
theorem fp_X9_53 : yFp RX9 53 10 16 (.array .int) true := ⟨RX9, TX9, 53, tyX9, rfl, by decide, it_X9, yt_in 812 (by decide +kernel) rfl, tyX9_ok, nmX9, rfl, rfl, (fun _ => rfl)⟩
theorem fl_X9_56 : yFl RX9 56 10 18 := ⟨RX9, TX9, 53, rfl, by decide, it_X9, yt_in 814 (by decide +kernel) rfl⟩
theorem fp_X9_56 : yFp RX9 56 10 18 (.array .int) true := ⟨RX9, TX9, 53, tyX9, rfl, by decide, it_X9, yt_in 814 (by decide +kernel) rfl, tyX9_ok, nmX9, rfl, rfl, (fun _ => rfl)⟩
theorem fl_X9_59 : yFl RX9 59 10 20 := ⟨RX9, TX9, 53, rfl, by decide, it_X9, yt_in 816 (by decide +kernel) rfl⟩
theorem fp_X9_59 : yFp RX9 59 10 20 (.array .int) true := ⟨RX9, TX9, 53, tyX9, rfl, by decide, it_X9, yt_in 816 (by decide +kernel) rfl, tyX9_ok, nmX9, rfl, rfl, (fun _ => rfl)⟩
theorem fl_X9_62 : yFl RX9 62 10 21 := ⟨RX9, TX9, 53, rfl, by decide, it_X9, yt_in 817 (by decide +kernel) rfl⟩
theorem fp_X9_62 : yFp RX9 62 10 21 (.array .int) true := ⟨RX9, TX9, 53, tyX9, rfl, by decide, it_X9, yt_in 817 (by decide +kernel) rfl, tyX9_ok, nmX9, rfl, rfl, (fun _ => rfl)⟩
theorem fl_X9_65 : yFl RX9 65 10 22 := ⟨RX9, TX9, 53, rfl, by decide, it_X9, yt_in 818 (by decide +kernel) rfl⟩
theorem fp_X9_65 : yFp RX9 65 10 22 (.array .int) true := ⟨RX9, TX9, 53, tyX9, rfl, by decide, it_X9, yt_in 818 (by decide +kernel) rfl, tyX9_ok, nmX9, rfl, rfl, (fun _ => rfl)⟩
theorem fl_X9_68 : yFl RX9 68 10 24 := ⟨RX9, TX9, 53, rfl, by decide, it_X9, yt_in 820 (by decide +kernel) rfl⟩
theorem fp_X9_68 : yFp RX9 68 10 24 (.array .int) true := ⟨RX9, TX9, 53, tyX9, rfl, by decide, it_X9, yt_in 820 (by decide +kernel) rfl, tyX9_ok, nmX9, rfl, rfl, (fun _ => rfl)⟩
theorem fl_X9_71 : yFl RX9 71 10 25 := ⟨RX9, TX9, 53, rfl, by decide, it_X9, yt_in 821 (by decide +kernel) rfl⟩
theorem fp_X9_71 : yFp RX9 71 10 25 (.array .int) true := ⟨RX9, TX9, 53, tyX9, rfl, by decide, it_X9, yt_in 821 (by decide +kernel) rfl, tyX9_ok, nmX9, rfl, rfl, (fun _ => rfl)⟩
theorem fl_X9_74 : yFl RX9 74 10 26 := ⟨RX9, TX9, 53, rfl, by decide, it_X9, yt_in 822 (by decide +kernel) rfl⟩
theorem fp_X9_74 : yFp RX9 74 10 26 (.array .int) true := ⟨RX9, TX9, 53, tyX9, rfl, by decide, it_X9, yt_in 822 (by decide +kernel) rfl, tyX9_ok, nmX9, rfl, rfl, (fun _ => rfl)⟩
theorem fl_X9_77 : yFl RX9 77 10 27 := ⟨RX9, TX9, 53, rfl, by decide, it_X9, yt_in 823 (by decide +kernel) rfl⟩
theorem fp_X9_77 : yFp RX9 77 10 27 (.array .int) true := ⟨RX9, TX9, 53, tyX9, rfl, by decide, it_X9, yt_in 823 (by decide +kernel) rfl, tyX9_ok, nmX9, rfl, rfl, (fun _ => rfl)⟩
theorem fl_X9_80 : yFl RX9 80 10 28 := ⟨RX9, TX9, 53, rfl, by decide, it_X9, yt_in 824 (by decide +kernel) rfl⟩
theorem fp_X9_80 : yFp RX9 80 10 28 (.array .int) true := ⟨RX9, TX9, 53, tyX9, rfl, by decide, it_X9, yt_in 824 (by decide +kernel) rfl, tyX9_ok, nmX9, rfl, rfl, (fun _ => rfl)⟩
theorem fl_X9_83 : yFl RX9 83 10 30 := ⟨RX9, TX9, 53, rfl, by decide, it_X9, yt_in 826 (by decide +kernel) rfl⟩
theorem fp_X9_83 : yFp RX9 83 10 30 (.array .int) true := ⟨RX9, TX9, 53, tyX9, rfl, by decide, it_X9, yt_in 826 (by decide +kernel) rfl, tyX9_ok, nmX9, rfl, rfl, (fun _ => rfl)⟩
theorem fl_X9_86 : yFl RX9 86 10 31 := ⟨RX9, TX9, 53, rfl, by decide, it_X9, yt_in 827 (by decide +kernel) rfl⟩
theorem fp_X9_86 : yFp RX9 86 10 31 (.array .int) true := ⟨RX9, TX9, 53, tyX9, rfl, by decide, it_X9, yt_in 827 (by decide +kernel) rfl, tyX9_ok, nmX9, rfl, rfl, (fun _ => rfl)⟩
theorem fl_X9_89 : yFl RX9 89 10 32 := ⟨RX9, TX9, 53, rfl, by decide, it_X9, yt_in 828 (by decide +kernel) rfl⟩
theorem fp_X9_89 : yFp RX9 89 10 32 (.array .int) true := ⟨RX9, TX9, 53, tyX9, rfl, by decide, it_X9, yt_in 828 (by decide +kernel) rfl, tyX9_ok, nmX9, rfl, rfl, (fun _ => rfl)⟩
theorem fl_X9_92 : yFl RX9 92 10 33 := ⟨RX9, TX9, 53, rfl, by decide, it_X9, yt_in 829 (by decide +kernel) rfl⟩
theorem fp_X9_92 : yFp RX9 92 10 33 (.array .int) true := ⟨RX9, TX9, 53, tyX9, rfl, by decide, it_X9, yt_in 829 (by decide +kernel) rfl, tyX9_ok, nmX9, rfl, rfl, (fun _ => rfl)⟩
theorem fl_X9_95 : yFl RX9 95 10 34 := ⟨RX9, TX9, 53, rfl, by decide, it_X9, yt_in 830 (by decide +kernel) rfl⟩
theorem fp_X9_95 : yFp RX9 95 10 34 (.int) false := ⟨RX9, TX9, 53, tyX9, rfl, by decide, it_X9, yt_in 830 (by decide +kernel) rfl, tyX9_ok, nmX9, rfl, rfl, (fun h => by cases h)⟩
theorem fl_X9_99 : yFl RX9 99 10 38 := ⟨RX9, TX9, 53, rfl, by decide, it_X9, yt_in 834 (by decide +kernel) rfl⟩
theorem fp_X9_99 : yFp RX9 99 10 38 (.int) false := ⟨RX9, TX9, 53, tyX9, rfl, by decide, it_X9, yt_in 834 (by decide +kernel) rfl, tyX9_ok, nmX9, rfl, rfl, (fun h => by cases h)⟩
theorem fl_X9_102 : yFl RX9 102 10 39 := ⟨RX9, TX9, 53, rfl, by decide, it_X9, yt_in 835 (by decide +kernel) rfl⟩
theorem fp_X9_102 : yFp RX9 102 10 39 (.int) false := ⟨RX9, TX9, 53, tyX9, rfl, by decide, it_X9, yt_in 835 (by decide +kernel) rfl, tyX9_ok, nmX9, rfl, rfl, (fun h => by cases h)⟩
theorem fl_X9_105 : yFl RX9 105 10 42 := ⟨RX9, TX9, 53, rfl, by decide, it_X9, yt_in 838 (by decide +kernel) rfl⟩
theorem fp_X9_105 : yFp RX9 105 10 42 (.int) false := ⟨RX9, TX9, 53, tyX9, rfl, by decide, it_X9, yt_in 838 (by decide +kernel) rfl, tyX9_ok, nmX9, rfl, rfl, (fun h => by cases h)⟩
theorem fl_X9_108 : yFl RX9 108 10 46 := ⟨RX9, TX9, 53, rfl, by decide, it_X9, yt_in 842 (by decide +kernel) rfl⟩
theorem fp_X9_108 : yFp RX9 108 10 46 (.array .int) true := ⟨RX9, TX9, 53, tyX9, rfl, by decide, it_X9, yt_in 842 (by decide +kernel) rfl, tyX9_ok, nmX9, rfl, rfl, (fun _ => rfl)⟩
theorem fl_X9_111 : yFl RX9 111 10 48 := ⟨RX9, TX9, 53, rfl, by decide, it_X9, yt_in 844 (by decide +kernel) rfl⟩
theorem fp_X9_111 : yFp RX9 111 10 48 (.int) false := ⟨RX9, TX9, 53, tyX9, rfl, by decide, it_X9, yt_in 844 (by decide +kernel) rfl, tyX9_ok, nmX9, rfl, rfl, (fun h => by cases h)⟩
theorem fl_X9_114 : yFl RX9 114 10 51 := ⟨RX9, TX9, 53, rfl, by decide, it_X9, yt_in 847 (by decide +kernel) rfl⟩
theorem fp_X9_114 : yFp RX9 114 10 51 (.array .int) true := ⟨RX9, TX9, 53, tyX9, rfl, by decide, it_X9, yt_in 847 (by decide +kernel) rfl, tyX9_ok, nmX9, rfl, rfl, (fun _ => rfl)⟩
theorem fl_X9_117 : yFl RX9 117 10 52 := ⟨RX9, TX9, 53, rfl, by decide, it_X9, yt_in 848 (by decide +kernel) rfl⟩
theorem fp_X9_117 : yFp RX9 117 10 52 (.array .int) true := ⟨RX9, TX9, 53, tyX9, rfl, by decide, it_X9, yt_in 848 (by decide +kernel) rfl, tyX9_ok, nmX9, rfl, rfl, (fun _ => rfl)⟩
theorem fl_X9_120 : yFl RX9 120 10 1 := ⟨RX9, TX9, 53, rfl, by decide, it_X9, yt_in 797 (by decide +kernel) rfl⟩
theorem fp_X9_120 : yFp RX9 120 10 1 (.int) false := ⟨RX9, TX9, 53, tyX9, rfl, by decide, it_X9, yt_in 797 (by decide +kernel) rfl, tyX9_ok, nmX9, rfl, rfl, (fun h => by cases h)⟩
theorem fl_X9_127 : yFl RX9 127 10 17 := ⟨RX9, TX9, 53, rfl, by decide, it_X9, yt_in 813 (by decide +kernel) rfl⟩
theorem fp_X9_127 : yFp RX9 127 10 17 (.int) false := ⟨RX9, TX9, 53, tyX9, rfl, by decide, it_X9, yt_in 813 (by decide +kernel) rfl, tyX9_ok, nmX9, rfl, rfl, (fun h => by cases h)⟩
theorem fl_X9_130 : yFl RX9 130 10 19 := ⟨RX9, TX9, 53, rfl, by decide, it_X9, yt_in 815 (by decide +kernel) rfl⟩
theorem fp_X9_130 : yFp RX9 130 10 19 (.int) false := ⟨RX9, TX9, 53, tyX9, rfl, by decide, it_X9, yt_in 815 (by decide +kernel) rfl, tyX9_ok, nmX9, rfl, rfl, (fun h => by cases h)⟩
theorem fl_X9_133 : yFl RX9 133 10 0 := ⟨RX9, TX9, 53, rfl, by decide, it_X9, yt_in 796 (by decide +kernel) rfl⟩
theorem fp_X9_133 : yFp RX9 133 10 0 (.int) false := ⟨RX9, TX9, 53, tyX9, rfl, by decide, it_X9, yt_in 796 (by decide +kernel) rfl, tyX9_ok, nmX9, rfl, rfl, (fun h => by cases h)⟩
theorem fl_X9_150 : yFl RX9 150 10 23 := ⟨RX9, TX9, 53, rfl, by decide, it_X9, yt_in 819 (by decide +kernel) rfl⟩
theorem fp_X9_150 : yFp RX9 150 10 23 (.int) false := ⟨RX9, TX9, 53, tyX9, rfl, by decide, it_X9, yt_in 819 (by decide +kernel) rfl, tyX9_ok, nmX9, rfl, rfl, (fun h => by cases h)⟩
theorem fl_X9_153 : yFl RX9 153 10 29 := ⟨RX9, TX9, 53, rfl, by decide, it_X9, yt_in 825 (by decide +kernel) rfl⟩
theorem fp_X9_153 : yFp RX9 153 10 29 (.int) false := ⟨RX9, TX9, 53, tyX9, rfl, by decide, it_X9, yt_in 825 (by decide +kernel) rfl, tyX9_ok, nmX9, rfl, rfl, (fun h => by cases h)⟩
theorem fl_X9_159 : yFl RX9 159 10 44 := ⟨RX9, TX9, 53, rfl, by decide, it_X9, yt_in 840 (by decide +kernel) rfl⟩
theorem fp_X9_159 : yFp RX9 159 10 44 (.int) false := ⟨RX9, TX9, 53, tyX9, rfl, by decide, it_X9, yt_in 840 (by decide +kernel) rfl, tyX9_ok, nmX9, rfl, rfl, (fun h => by cases h)⟩
theorem fl_X9_162 : yFl RX9 162 10 40 := ⟨RX9, TX9, 53, rfl, by decide, it_X9, yt_in 836 (by decide +kernel) rfl⟩
theorem fp_X9_162 : yFp RX9 162 10 40 (.boolean) false := ⟨RX9, TX9, 53, tyX9, rfl, by decide, it_X9, yt_in 836 (by decide +kernel) rfl, tyX9_ok, nmX9, rfl, rfl, (fun h => by cases h)⟩
theorem fl_X9_166 : yFl RX9 166 10 47 := ⟨RX9, TX9, 53, rfl, by decide, it_X9, yt_in 843 (by decide +kernel) rfl⟩
theorem fp_X9_166 : yFp RX9 166 10 47 (.int) false := ⟨RX9, TX9, 53, tyX9, rfl, by decide, it_X9, yt_in 843 (by decide +kernel) rfl, tyX9_ok, nmX9, rfl, rfl, (fun h => by cases h)⟩
theorem fl_X9_173 : yFl RX9 173 10 50 := ⟨RX9, TX9, 53, rfl, by decide, it_X9, yt_in 846 (by decide +kernel) rfl⟩
theorem fp_X9_173 : yFp RX9 173 10 50 (.int) false := ⟨RX9, TX9, 53, tyX9, rfl, by decide, it_X9, yt_in 846 (by decide +kernel) rfl, tyX9_ok, nmX9, rfl, rfl, (fun h => by cases h)⟩
theorem fl_X9_186 : yFl RX9 186 10 49 := ⟨RX9, TX9, 53, rfl, by decide, it_X9, yt_in 845 (by decide +kernel) rfl⟩
theorem fp_X9_186 : yFp RX9 186 10 49 (.int) false := ⟨RX9, TX9, 53, tyX9, rfl, by decide, it_X9, yt_in 845 (by decide +kernel) rfl, tyX9_ok, nmX9, rfl, rfl, (fun h => by cases h)⟩
theorem fl_X9_189 : yFl RX9 189 10 35 := ⟨RX9, TX9, 53, rfl, by decide, it_X9, yt_in 831 (by decide +kernel) rfl⟩
theorem fp_X9_189 : yFp RX9 189 10 35 (.int) false := ⟨RX9, TX9, 53, tyX9, rfl, by decide, it_X9, yt_in 831 (by decide +kernel) rfl, tyX9_ok, nmX9, rfl, rfl, (fun h => by cases h)⟩
theorem fl_X9_204 : yFl RX9 204 10 45 := ⟨RX9, TX9, 53, rfl, by decide, it_X9, yt_in 841 (by decide +kernel) rfl⟩
theorem fp_X9_204 : yFp RX9 204 10 45 (.int) false := ⟨RX9, TX9, 53, tyX9, rfl, by decide, it_X9, yt_in 841 (by decide +kernel) rfl, tyX9_ok, nmX9, rfl, rfl, (fun h => by cases h)⟩
theorem fl_X9_207 : yFl RX9 207 10 41 := ⟨RX9, TX9, 53, rfl, by decide, it_X9, yt_in 837 (by decide +kernel) rfl⟩
theorem fp_X9_207 : yFp RX9 207 10 41 (.int) false := ⟨RX9, TX9, 53, tyX9, rfl, by decide, it_X9, yt_in 837 (by decide +kernel) rfl, tyX9_ok, nmX9, rfl, rfl, (fun h => by cases h)⟩
theorem fl_X9_210 : yFl RX9 210 10 43 := ⟨RX9, TX9, 53, rfl, by decide, it_X9, yt_in 839 (by decide +kernel) rfl⟩
theorem fp_X9_210 : yFp RX9 210 10 43 (.int) false := ⟨RX9, TX9, 53, tyX9, rfl, by decide, it_X9, yt_in 839 (by decide +kernel) rfl, tyX9_ok, nmX9, rfl, rfl, (fun h => by cases h)⟩
theorem fl_X9_223 : yFl RX9 223 10 36 := ⟨RX9, TX9, 53, rfl, by decide, it_X9, yt_in 832 (by decide +kernel) rfl⟩
theorem fp_X9_223 : yFp RX9 223 10 36 (.int) false := ⟨RX9, TX9, 53, tyX9, rfl, by decide, it_X9, yt_in 832 (by decide +kernel) rfl, tyX9_ok, nmX9, rfl, rfl, (fun h => by cases h)⟩
theorem fl_X9_226 : yFl RX9 226 10 37 := ⟨RX9, TX9, 53, rfl, by decide, it_X9, yt_in 833 (by decide +kernel) rfl⟩
theorem fp_X9_226 : yFp RX9 226 10 37 (.int) false := ⟨RX9, TX9, 53, tyX9, rfl, by decide, it_X9, yt_in 833 (by decide +kernel) rfl, tyX9_ok, nmX9, rfl, rfl, (fun h => by cases h)⟩
theorem fl_Jx4a65c_9 : yFl RJx4a65c 9 0 1 := ⟨RJx4a65c, TJx4a65c, 3, rfl, by decide, it_Jx4a65c, yt_in 42 (by decide +kernel) rfl⟩
theorem fp_Jx4a65c_9 : yFp RJx4a65c 9 0 1 (.array (.object "java/lang/Object")) false := ⟨RJx4a65c, TJx4a65c, 3, tyJx4a65c, rfl, by decide, it_Jx4a65c, yt_in 42 (by decide +kernel) rfl, tyJx4a65c_ok, nmJx4a65c, rfl, rfl, (fun h => by cases h)⟩
theorem fl_Jx4a65c_48 : yFl RJx4a65c 48 0 2 := ⟨RJx4a65c, TJx4a65c, 3, rfl, by decide, it_Jx4a65c, yt_in 43 (by decide +kernel) rfl⟩
theorem fp_Jx4a65c_48 : yFp RJx4a65c 48 0 2 (.int) false := ⟨RJx4a65c, TJx4a65c, 3, tyJx4a65c, rfl, by decide, it_Jx4a65c, yt_in 43 (by decide +kernel) rfl, tyJx4a65c_ok, nmJx4a65c, rfl, rfl, (fun h => by cases h)⟩
theorem mt_X0_init : yMt yX0_init cX0_init 1 none 0 := ⟨yt_in 104 (by decide +kernel) rfl, yt_in 7 (by decide +kernel) rfl, by decide, by decide, by decide +kernel⟩
theorem mi_X0_init : Cond.instanceMethod yX0_init ∈ yTs := yt_in 103 (by decide +kernel) rfl
theorem mt_X0_asksOf : yMt yX0_asksOf cX0_asksOf 4 (some .boolean) 3 := ⟨yt_in 585 (by decide +kernel) rfl, yt_in 7 (by decide +kernel) rfl, by decide, by decide, by decide +kernel⟩
theorem mi_X0_asksOf : Cond.instanceMethod yX0_asksOf ∈ yTs := yt_in 583 (by decide +kernel) rfl
theorem mv_X0_asksOf : yMv yX0_asksOf := ⟨mi_X0_asksOf, yt_in 584 (by decide +kernel) rfl⟩
theorem mt_X0_holdsOf : yMt yX0_holdsOf cX0_holdsOf 3 (some .boolean) 2 := ⟨yt_in 540 (by decide +kernel) rfl, yt_in 7 (by decide +kernel) rfl, by decide, by decide, by decide +kernel⟩
theorem mi_X0_holdsOf : Cond.instanceMethod yX0_holdsOf ∈ yTs := yt_in 538 (by decide +kernel) rfl
theorem mv_X0_holdsOf : yMv yX0_holdsOf := ⟨mi_X0_holdsOf, yt_in 539 (by decide +kernel) rfl⟩
theorem mt_X0_asksAsCar : yMt yX0_asksAsCar cX0_asksAsCar 3 (some .boolean) 2 := ⟨yt_in 589 (by decide +kernel) rfl, yt_in 7 (by decide +kernel) rfl, by decide, by decide, by decide +kernel⟩
theorem mi_X0_asksAsCar : Cond.instanceMethod yX0_asksAsCar ∈ yTs := yt_in 588 (by decide +kernel) rfl
theorem mv_X0_asksAsCar : yMv yX0_asksAsCar := ⟨mi_X0_asksAsCar, yt_sel 17 (by decide +kernel) rfl⟩
theorem mt_X0_asksAsTurn : yMt yX0_asksAsTurn cX0_asksAsTurn 3 (some .boolean) 2 := ⟨yt_in 593 (by decide +kernel) rfl, yt_in 7 (by decide +kernel) rfl, by decide, by decide, by decide +kernel⟩
theorem mi_X0_asksAsTurn : Cond.instanceMethod yX0_asksAsTurn ∈ yTs := yt_in 592 (by decide +kernel) rfl
theorem mv_X0_asksAsTurn : yMv yX0_asksAsTurn := ⟨mi_X0_asksAsTurn, yt_sel 18 (by decide +kernel) rfl⟩
theorem mt_X0_asksAsWalk : yMt yX0_asksAsWalk cX0_asksAsWalk 2 (some .boolean) 1 := ⟨yt_in 597 (by decide +kernel) rfl, yt_in 7 (by decide +kernel) rfl, by decide, by decide, by decide +kernel⟩
theorem mi_X0_asksAsWalk : Cond.instanceMethod yX0_asksAsWalk ∈ yTs := yt_in 596 (by decide +kernel) rfl
theorem mv_X0_asksAsWalk : yMv yX0_asksAsWalk := ⟨mi_X0_asksAsWalk, yt_sel 19 (by decide +kernel) rfl⟩
theorem mt_X0_asksAsTram : yMt yX0_asksAsTram cX0_asksAsTram 2 (some .boolean) 1 := ⟨yt_in 601 (by decide +kernel) rfl, yt_in 7 (by decide +kernel) rfl, by decide, by decide, by decide +kernel⟩
theorem mi_X0_asksAsTram : Cond.instanceMethod yX0_asksAsTram ∈ yTs := yt_in 600 (by decide +kernel) rfl
theorem mv_X0_asksAsTram : yMv yX0_asksAsTram := ⟨mi_X0_asksAsTram, yt_sel 20 (by decide +kernel) rfl⟩
theorem mt_X0_holdsAsCar : yMt yX0_holdsAsCar cX0_holdsAsCar 2 (some .boolean) 1 := ⟨yt_in 544 (by decide +kernel) rfl, yt_in 7 (by decide +kernel) rfl, by decide, by decide, by decide +kernel⟩
theorem mi_X0_holdsAsCar : Cond.instanceMethod yX0_holdsAsCar ∈ yTs := yt_in 543 (by decide +kernel) rfl
theorem mv_X0_holdsAsCar : yMv yX0_holdsAsCar := ⟨mi_X0_holdsAsCar, yt_sel 11 (by decide +kernel) rfl⟩
theorem mt_X0_holdsAsWalk : yMt yX0_holdsAsWalk cX0_holdsAsWalk 1 (some .boolean) 0 := ⟨yt_in 548 (by decide +kernel) rfl, yt_in 7 (by decide +kernel) rfl, by decide, by decide, by decide +kernel⟩
theorem mi_X0_holdsAsWalk : Cond.instanceMethod yX0_holdsAsWalk ∈ yTs := yt_in 547 (by decide +kernel) rfl
theorem mv_X0_holdsAsWalk : yMv yX0_holdsAsWalk := ⟨mi_X0_holdsAsWalk, yt_sel 12 (by decide +kernel) rfl⟩
theorem mt_X0_holdsAsTram : yMt yX0_holdsAsTram cX0_holdsAsTram 2 (some .boolean) 1 := ⟨yt_in 552 (by decide +kernel) rfl, yt_in 7 (by decide +kernel) rfl, by decide, by decide, by decide +kernel⟩
theorem mi_X0_holdsAsTram : Cond.instanceMethod yX0_holdsAsTram ∈ yTs := yt_in 551 (by decide +kernel) rfl
theorem mv_X0_holdsAsTram : yMv yX0_holdsAsTram := ⟨mi_X0_holdsAsTram, yt_sel 13 (by decide +kernel) rfl⟩
theorem mt_X0_holdsAsRest : yMt yX0_holdsAsRest cX0_holdsAsRest 1 (some .boolean) 0 := ⟨yt_in 556 (by decide +kernel) rfl, yt_in 7 (by decide +kernel) rfl, by decide, by decide, by decide +kernel⟩
theorem mi_X0_holdsAsRest : Cond.instanceMethod yX0_holdsAsRest ∈ yTs := yt_in 555 (by decide +kernel) rfl
theorem mv_X0_holdsAsRest : yMv yX0_holdsAsRest := ⟨mi_X0_holdsAsRest, yt_sel 14 (by decide +kernel) rfl⟩
theorem mt_X1_init : yMt yX1_init cX1_init 2 none 1 := ⟨yt_in 390 (by decide +kernel) rfl, yt_in 17 (by decide +kernel) rfl, by decide, by decide, by decide +kernel⟩
theorem mi_X1_init : Cond.instanceMethod yX1_init ∈ yTs := yt_in 389 (by decide +kernel) rfl
theorem mt_X1_isCutOff : yMt yX1_isCutOff cX1_isCutOff 1 (some .boolean) 0 := ⟨yt_in 420 (by decide +kernel) rfl, yt_in 17 (by decide +kernel) rfl, by decide, by decide, by decide +kernel⟩
theorem mi_X1_isCutOff : Cond.instanceMethod yX1_isCutOff ∈ yTs := yt_in 418 (by decide +kernel) rfl
theorem mv_X1_isCutOff : yMv yX1_isCutOff := ⟨mi_X1_isCutOff, yt_in 419 (by decide +kernel) rfl⟩
theorem mt_X1_cutOff : yMt yX1_cutOff cX1_cutOff 2 (some .int) 0 := ⟨yt_in 424 (by decide +kernel) rfl, yt_in 17 (by decide +kernel) rfl, by decide, by decide, by decide +kernel⟩
theorem mi_X1_cutOff : Cond.instanceMethod yX1_cutOff ∈ yTs := yt_in 422 (by decide +kernel) rfl
theorem mv_X1_cutOff : yMv yX1_cutOff := ⟨mi_X1_cutOff, yt_in 423 (by decide +kernel) rfl⟩
theorem mt_X1_addPlace : yMt yX1_addPlace cX1_addPlace 3 (some .boolean) 2 := ⟨yt_in 432 (by decide +kernel) rfl, yt_in 17 (by decide +kernel) rfl, by decide, by decide, by decide +kernel⟩
theorem mi_X1_addPlace : Cond.instanceMethod yX1_addPlace ∈ yTs := yt_in 430 (by decide +kernel) rfl
theorem mv_X1_addPlace : yMv yX1_addPlace := ⟨mi_X1_addPlace, yt_in 431 (by decide +kernel) rfl⟩
theorem mt_X1_reaches : yMt yX1_reaches cX1_reaches 2 (some .boolean) 1 := ⟨yt_in 568 (by decide +kernel) rfl, yt_in 17 (by decide +kernel) rfl, by decide, by decide, by decide +kernel⟩
theorem mi_X1_reaches : Cond.instanceMethod yX1_reaches ∈ yTs := yt_in 566 (by decide +kernel) rfl
theorem mv_X1_reaches : yMv yX1_reaches := ⟨mi_X1_reaches, yt_in 567 (by decide +kernel) rfl⟩
theorem mt_X1_passingsAt : yMt yX1_passingsAt cX1_passingsAt 2 (some .int) 1 := ⟨yt_in 572 (by decide +kernel) rfl, yt_in 17 (by decide +kernel) rfl, by decide, by decide, by decide +kernel⟩
theorem mi_X1_passingsAt : Cond.instanceMethod yX1_passingsAt ∈ yTs := yt_in 570 (by decide +kernel) rfl
theorem mv_X1_passingsAt : yMv yX1_passingsAt := ⟨mi_X1_passingsAt, yt_in 571 (by decide +kernel) rfl⟩
theorem mt_X1_occupiedAt : yMt yX1_occupiedAt cX1_occupiedAt 2 (some .int) 1 := ⟨yt_in 581 (by decide +kernel) rfl, yt_in 17 (by decide +kernel) rfl, by decide, by decide, by decide +kernel⟩
theorem mi_X1_occupiedAt : Cond.instanceMethod yX1_occupiedAt ∈ yTs := yt_in 579 (by decide +kernel) rfl
theorem mv_X1_occupiedAt : yMv yX1_occupiedAt := ⟨mi_X1_occupiedAt, yt_in 580 (by decide +kernel) rfl⟩
theorem mt_X2_init : yMt yX2_init cX2_init 1 none 0 := ⟨yt_in 77 (by decide +kernel) rfl, yt_in 6 (by decide +kernel) rfl, by decide, by decide, by decide +kernel⟩
theorem mi_X2_init : Cond.instanceMethod yX2_init ∈ yTs := yt_in 76 (by decide +kernel) rfl
theorem mt_X2_meet : yMt yX2_meet cX2_meet 3 none 2 := ⟨yt_in 635 (by decide +kernel) rfl, yt_in 6 (by decide +kernel) rfl, by decide, by decide, by decide +kernel⟩
theorem mi_X2_meet : Cond.instanceMethod yX2_meet ∈ yTs := yt_in 633 (by decide +kernel) rfl
theorem mv_X2_meet : yMv yX2_meet := ⟨mi_X2_meet, yt_in 634 (by decide +kernel) rfl⟩
theorem mt_X3_init : yMt yX3_init cX3_init 1 none 0 := ⟨yt_in 58 (by decide +kernel) rfl, yt_in 5 (by decide +kernel) rfl, by decide, by decide, by decide +kernel⟩
theorem mi_X3_init : Cond.instanceMethod yX3_init ∈ yTs := yt_in 57 (by decide +kernel) rfl
theorem mt_X3_add : yMt yX3_add cX3_add 3 none 2 := ⟨yt_in 564 (by decide +kernel) rfl, yt_in 5 (by decide +kernel) rfl, by decide, by decide, by decide +kernel⟩
theorem mi_X3_add : Cond.instanceMethod yX3_add ∈ yTs := yt_in 562 (by decide +kernel) rfl
theorem mv_X3_add : yMv yX3_add := ⟨mi_X3_add, yt_in 563 (by decide +kernel) rfl⟩
theorem mt_X3_howMany : yMt yX3_howMany cX3_howMany 2 (some .int) 1 := ⟨yt_in 777 (by decide +kernel) rfl, yt_in 5 (by decide +kernel) rfl, by decide, by decide, by decide +kernel⟩
theorem mi_X3_howMany : Cond.instanceMethod yX3_howMany ∈ yTs := yt_in 775 (by decide +kernel) rfl
theorem mv_X3_howMany : yMv yX3_howMany := ⟨mi_X3_howMany, yt_in 776 (by decide +kernel) rfl⟩
theorem mt_X4_init : yMt yX4_init cX4_init 6 none 5 := ⟨yt_in 442 (by decide +kernel) rfl, yt_in 18 (by decide +kernel) rfl, by decide, by decide, by decide +kernel⟩
theorem mi_X4_init : Cond.instanceMethod yX4_init ∈ yTs := yt_in 441 (by decide +kernel) rfl
theorem mt_X4_changeTable : yMt yX4_changeTable cX4_changeTable 1 none 0 := ⟨yt_in 515 (by decide +kernel) rfl, yt_in 18 (by decide +kernel) rfl, by decide, by decide, by decide +kernel⟩
theorem mi_X4_changeTable : Cond.instanceMethod yX4_changeTable ∈ yTs := yt_in 513 (by decide +kernel) rfl
theorem mv_X4_changeTable : yMv yX4_changeTable := ⟨mi_X4_changeTable, yt_in 514 (by decide +kernel) rfl⟩
theorem mt_X5_init : yMt yX5_init cX5_init 4 none 3 := ⟨yt_in 473 (by decide +kernel) rfl, yt_in 19 (by decide +kernel) rfl, by decide, by decide, by decide +kernel⟩
theorem mi_X5_init : Cond.instanceMethod yX5_init ∈ yTs := yt_in 472 (by decide +kernel) rfl
theorem mt_X5_lookAt : yMt yX5_lookAt cX5_lookAt 2 none 1 := ⟨yt_in 609 (by decide +kernel) rfl, yt_in 19 (by decide +kernel) rfl, by decide, by decide, by decide +kernel⟩
theorem mi_X5_lookAt : Cond.instanceMethod yX5_lookAt ∈ yTs := yt_in 607 (by decide +kernel) rfl
theorem mv_X5_lookAt : yMv yX5_lookAt := ⟨mi_X5_lookAt, yt_in 608 (by decide +kernel) rfl⟩
theorem mt_X5_differIn : yMt yX5_differIn cX5_differIn 2 (some .boolean) 1 := ⟨yt_in 613 (by decide +kernel) rfl, yt_in 19 (by decide +kernel) rfl, by decide, by decide, by decide +kernel⟩
theorem mi_X5_differIn : Cond.instanceMethod yX5_differIn ∈ yTs := yt_in 612 (by decide +kernel) rfl
theorem mv_X5_differIn : yMv yX5_differIn := ⟨mi_X5_differIn, yt_sel 22 (by decide +kernel) rfl⟩
theorem mt_X5_isBroken : yMt yX5_isBroken cX5_isBroken 1 (some .boolean) 0 := ⟨yt_in 627 (by decide +kernel) rfl, yt_in 19 (by decide +kernel) rfl, by decide, by decide, by decide +kernel⟩
theorem mi_X5_isBroken : Cond.instanceMethod yX5_isBroken ∈ yTs := yt_in 625 (by decide +kernel) rfl
theorem mv_X5_isBroken : yMv yX5_isBroken := ⟨mi_X5_isBroken, yt_in 626 (by decide +kernel) rfl⟩
theorem mt_X5_beginAnew : yMt yX5_beginAnew cX5_beginAnew 1 none 0 := ⟨yt_in 653 (by decide +kernel) rfl, yt_in 19 (by decide +kernel) rfl, by decide, by decide, by decide +kernel⟩
theorem mi_X5_beginAnew : Cond.instanceMethod yX5_beginAnew ∈ yTs := yt_in 651 (by decide +kernel) rfl
theorem mv_X5_beginAnew : yMv yX5_beginAnew := ⟨mi_X5_beginAnew, yt_in 652 (by decide +kernel) rfl⟩
theorem mt_X6_init : yMt yX6_init cX6_init 4 none 2 := ⟨yt_in 172 (by decide +kernel) rfl, yt_in 9 (by decide +kernel) rfl, by decide, by decide, by decide +kernel⟩
theorem mi_X6_init : Cond.instanceMethod yX6_init ∈ yTs := yt_in 171 (by decide +kernel) rfl
theorem mt_X6_isAsked : yMt yX6_isAsked cX6_isAsked 1 (some .boolean) 0 := ⟨yt_in 495 (by decide +kernel) rfl, yt_in 9 (by decide +kernel) rfl, by decide, by decide, by decide +kernel⟩
theorem mi_X6_isAsked : Cond.instanceMethod yX6_isAsked ∈ yTs := yt_in 493 (by decide +kernel) rfl
theorem mv_X6_isAsked : yMv yX6_isAsked := ⟨mi_X6_isAsked, yt_in 494 (by decide +kernel) rfl⟩
theorem mt_X6_isLit : yMt yX6_isLit cX6_isLit 1 (some .boolean) 0 := ⟨yt_in 623 (by decide +kernel) rfl, yt_in 9 (by decide +kernel) rfl, by decide, by decide, by decide +kernel⟩
theorem mi_X6_isLit : Cond.instanceMethod yX6_isLit ∈ yTs := yt_in 621 (by decide +kernel) rfl
theorem mv_X6_isLit : yMv yX6_isLit := ⟨mi_X6_isLit, yt_in 622 (by decide +kernel) rfl⟩
theorem mt_X6_setClearing : yMt yX6_setClearing cX6_setClearing 4 none 2 := ⟨yt_in 345 (by decide +kernel) rfl, yt_in 9 (by decide +kernel) rfl, by decide, by decide, by decide +kernel⟩
theorem mi_X6_setClearing : Cond.instanceMethod yX6_setClearing ∈ yTs := yt_in 343 (by decide +kernel) rfl
theorem mv_X6_setClearing : yMv yX6_setClearing := ⟨mi_X6_setClearing, yt_in 344 (by decide +kernel) rfl⟩
theorem mt_X6_clearingTo : yMt yX6_clearingTo cX6_clearingTo 3 (some .int) 1 := ⟨yt_in 381 (by decide +kernel) rfl, yt_in 9 (by decide +kernel) rfl, by decide, by decide, by decide +kernel⟩
theorem mi_X6_clearingTo : Cond.instanceMethod yX6_clearingTo ∈ yTs := yt_in 379 (by decide +kernel) rfl
theorem mv_X6_clearingTo : yMv yX6_clearingTo := ⟨mi_X6_clearingTo, yt_in 380 (by decide +kernel) rfl⟩
theorem mt_X6_greatestClearing : yMt yX6_greatestClearing cX6_greatestClearing 6 (some .int) 0 := ⟨yt_in 768 (by decide +kernel) rfl, yt_in 9 (by decide +kernel) rfl, by decide, by decide, by decide +kernel⟩
theorem mi_X6_greatestClearing : Cond.instanceMethod yX6_greatestClearing ∈ yTs := yt_in 766 (by decide +kernel) rfl
theorem mv_X6_greatestClearing : yMv yX6_greatestClearing := ⟨mi_X6_greatestClearing, yt_in 767 (by decide +kernel) rfl⟩
theorem mt_X6_keepLight : yMt yX6_keepLight cX6_keepLight 2 none 1 := ⟨yt_in 716 (by decide +kernel) rfl, yt_in 9 (by decide +kernel) rfl, by decide, by decide, by decide +kernel⟩
theorem mi_X6_keepLight : Cond.instanceMethod yX6_keepLight ∈ yTs := yt_in 714 (by decide +kernel) rfl
theorem mv_X6_keepLight : yMv yX6_keepLight := ⟨mi_X6_keepLight, yt_in 715 (by decide +kernel) rfl⟩
theorem mt_X6_lightBehind : yMt yX6_lightBehind cX6_lightBehind 2 (some .int) 1 := ⟨yt_in 737 (by decide +kernel) rfl, yt_in 9 (by decide +kernel) rfl, by decide, by decide, by decide +kernel⟩
theorem mi_X6_lightBehind : Cond.instanceMethod yX6_lightBehind ∈ yTs := yt_in 735 (by decide +kernel) rfl
theorem mv_X6_lightBehind : yMv yX6_lightBehind := ⟨mi_X6_lightBehind, yt_in 736 (by decide +kernel) rfl⟩
theorem mt_X7_init : yMt yX7_init cX7_init 2 none 1 := ⟨yt_in 353 (by decide +kernel) rfl, yt_in 16 (by decide +kernel) rfl, by decide, by decide, by decide +kernel⟩
theorem mi_X7_init : Cond.instanceMethod yX7_init ∈ yTs := yt_in 352 (by decide +kernel) rfl
theorem mt_X7_putPhase : yMt yX7_putPhase cX7_putPhase 3 none 2 := ⟨yt_in 369 (by decide +kernel) rfl, yt_in 16 (by decide +kernel) rfl, by decide, by decide, by decide +kernel⟩
theorem mi_X7_putPhase : Cond.instanceMethod yX7_putPhase ∈ yTs := yt_in 367 (by decide +kernel) rfl
theorem mv_X7_putPhase : yMv yX7_putPhase := ⟨mi_X7_putPhase, yt_in 368 (by decide +kernel) rfl⟩
theorem mt_X7_phaseIn : yMt yX7_phaseIn cX7_phaseIn 2 (some (.object "CrossingKeeper$Phase")) 1 := ⟨yt_in 752 (by decide +kernel) rfl, yt_in 16 (by decide +kernel) rfl, by decide, by decide, by decide +kernel⟩
theorem mi_X7_phaseIn : Cond.instanceMethod yX7_phaseIn ∈ yTs := yt_in 750 (by decide +kernel) rfl
theorem mv_X7_phaseIn : yMv yX7_phaseIn := ⟨mi_X7_phaseIn, yt_in 751 (by decide +kernel) rfl⟩
theorem mt_X7_hasPhase : yMt yX7_hasPhase cX7_hasPhase 6 (some .boolean) 1 := ⟨yt_in 341 (by decide +kernel) rfl, yt_in 16 (by decide +kernel) rfl, by decide, by decide, by decide +kernel⟩
theorem mi_X7_hasPhase : Cond.instanceMethod yX7_hasPhase ∈ yTs := yt_in 339 (by decide +kernel) rfl
theorem mv_X7_hasPhase : yMv yX7_hasPhase := ⟨mi_X7_hasPhase, yt_in 340 (by decide +kernel) rfl⟩
theorem mt_X7_isEmpty : yMt yX7_isEmpty cX7_isEmpty 5 (some .boolean) 0 := ⟨yt_in 373 (by decide +kernel) rfl, yt_in 16 (by decide +kernel) rfl, by decide, by decide, by decide +kernel⟩
theorem mi_X7_isEmpty : Cond.instanceMethod yX7_isEmpty ∈ yTs := yt_in 371 (by decide +kernel) rfl
theorem mv_X7_isEmpty : yMv yX7_isEmpty := ⟨mi_X7_isEmpty, yt_in 372 (by decide +kernel) rfl⟩
theorem mt_X7_hasConflict : yMt yX7_hasConflict cX7_hasConflict 9 (some .boolean) 0 := ⟨yt_in 377 (by decide +kernel) rfl, yt_in 16 (by decide +kernel) rfl, by decide, by decide, by decide +kernel⟩
theorem mi_X7_hasConflict : Cond.instanceMethod yX7_hasConflict ∈ yTs := yt_in 375 (by decide +kernel) rfl
theorem mv_X7_hasConflict : yMv yX7_hasConflict := ⟨mi_X7_hasConflict, yt_in 376 (by decide +kernel) rfl⟩
theorem mt_X7_leastGreen : yMt yX7_leastGreen cX7_leastGreen 6 (some .int) 0 := ⟨yt_in 693 (by decide +kernel) rfl, yt_in 16 (by decide +kernel) rfl, by decide, by decide, by decide +kernel⟩
theorem mi_X7_leastGreen : Cond.instanceMethod yX7_leastGreen ∈ yTs := yt_in 691 (by decide +kernel) rfl
theorem mv_X7_leastGreen : yMv yX7_leastGreen := ⟨mi_X7_leastGreen, yt_in 692 (by decide +kernel) rfl⟩
theorem mt_X7_greatestGreen : yMt yX7_greatestGreen cX7_greatestGreen 6 (some .int) 0 := ⟨yt_in 698 (by decide +kernel) rfl, yt_in 16 (by decide +kernel) rfl, by decide, by decide, by decide +kernel⟩
theorem mi_X7_greatestGreen : Cond.instanceMethod yX7_greatestGreen ∈ yTs := yt_in 696 (by decide +kernel) rfl
theorem mv_X7_greatestGreen : yMv yX7_greatestGreen := ⟨mi_X7_greatestGreen, yt_in 697 (by decide +kernel) rfl⟩
theorem mt_X7_isHeld : yMt yX7_isHeld cX7_isHeld 5 (some .boolean) 0 := ⟨yt_in 673 (by decide +kernel) rfl, yt_in 16 (by decide +kernel) rfl, by decide, by decide, by decide +kernel⟩
theorem mi_X7_isHeld : Cond.instanceMethod yX7_isHeld ∈ yTs := yt_in 671 (by decide +kernel) rfl
theorem mv_X7_isHeld : yMv yX7_isHeld := ⟨mi_X7_isHeld, yt_in 672 (by decide +kernel) rfl⟩
theorem mt_X7_firstAsked : yMt yX7_firstAsked cX7_firstAsked 6 (some .int) 0 := ⟨yt_in 668 (by decide +kernel) rfl, yt_in 16 (by decide +kernel) rfl, by decide, by decide, by decide +kernel⟩
theorem mi_X7_firstAsked : Cond.instanceMethod yX7_firstAsked ∈ yTs := yt_in 666 (by decide +kernel) rfl
theorem mv_X7_firstAsked : yMv yX7_firstAsked := ⟨mi_X7_firstAsked, yt_in 667 (by decide +kernel) rfl⟩
theorem mt_X7_mayBeGreen : yMt yX7_mayBeGreen cX7_mayBeGreen 6 (some .boolean) 1 := ⟨yt_in 685 (by decide +kernel) rfl, yt_in 16 (by decide +kernel) rfl, by decide, by decide, by decide +kernel⟩
theorem mi_X7_mayBeGreen : Cond.instanceMethod yX7_mayBeGreen ∈ yTs := yt_in 683 (by decide +kernel) rfl
theorem mv_X7_mayBeGreen : yMv yX7_mayBeGreen := ⟨mi_X7_mayBeGreen, yt_in 684 (by decide +kernel) rfl⟩
theorem mt_X8_init : yMt yX8_init cX8_init 1 none 0 := ⟨yt_in 24 (by decide +kernel) rfl, yt_in 1 (by decide +kernel) rfl, by decide, by decide, by decide +kernel⟩
theorem mi_X8_init : Cond.instanceMethod yX8_init ∈ yTs := yt_in 23 (by decide +kernel) rfl
theorem mt_X8_phase : yMt yX8_phase cX8_phase 3 (some .int) 1 := ⟨yt_in 163 (by decide +kernel) rfl, yt_in 1 (by decide +kernel) rfl, by decide, by decide, by decide +kernel⟩
theorem mi_X8_phase : Cond.instanceMethod yX8_phase ∈ yTs := yt_in 161 (by decide +kernel) rfl
theorem mv_X8_phase : yMv yX8_phase := ⟨mi_X8_phase, yt_in 162 (by decide +kernel) rfl⟩
theorem mt_X8_conflict : yMt yX8_conflict cX8_conflict 9 (some .int) 4 := ⟨yt_in 315 (by decide +kernel) rfl, yt_in 1 (by decide +kernel) rfl, by decide, by decide, by decide +kernel⟩
theorem mi_X8_conflict : Cond.instanceMethod yX8_conflict ∈ yTs := yt_in 313 (by decide +kernel) rfl
theorem mv_X8_conflict : yMv yX8_conflict := ⟨mi_X8_conflict, yt_in 314 (by decide +kernel) rfl⟩
theorem mt_X8_stage : yMt yX8_stage cX8_stage 9 (some .int) 4 := ⟨yt_in 349 (by decide +kernel) rfl, yt_in 1 (by decide +kernel) rfl, by decide, by decide, by decide +kernel⟩
theorem mi_X8_stage : Cond.instanceMethod yX8_stage ∈ yTs := yt_in 347 (by decide +kernel) rfl
theorem mv_X8_stage : yMv yX8_stage := ⟨mi_X8_stage, yt_in 348 (by decide +kernel) rfl⟩
theorem mt_X8_detector : yMt yX8_detector cX8_detector 4 (some .int) 1 := ⟨yt_in 385 (by decide +kernel) rfl, yt_in 1 (by decide +kernel) rfl, by decide, by decide, by decide +kernel⟩
theorem mi_X8_detector : Cond.instanceMethod yX8_detector ∈ yTs := yt_in 383 (by decide +kernel) rfl
theorem mv_X8_detector : yMv yX8_detector := ⟨mi_X8_detector, yt_in 384 (by decide +kernel) rfl⟩
theorem mt_X8_cut : yMt yX8_cut cX8_cut 3 (some .int) 1 := ⟨yt_in 412 (by decide +kernel) rfl, yt_in 1 (by decide +kernel) rfl, by decide, by decide, by decide +kernel⟩
theorem mi_X8_cut : Cond.instanceMethod yX8_cut ∈ yTs := yt_in 410 (by decide +kernel) rfl
theorem mv_X8_cut : yMv yX8_cut := ⟨mi_X8_cut, yt_in 411 (by decide +kernel) rfl⟩
theorem mt_X8_passing : yMt yX8_passing cX8_passing 5 (some .int) 3 := ⟨yt_in 428 (by decide +kernel) rfl, yt_in 1 (by decide +kernel) rfl, by decide, by decide, by decide +kernel⟩
theorem mi_X8_passing : Cond.instanceMethod yX8_passing ∈ yTs := yt_in 426 (by decide +kernel) rfl
theorem mv_X8_passing : yMv yX8_passing := ⟨mi_X8_passing, yt_in 427 (by decide +kernel) rfl⟩
theorem mt_X8_table : yMt yX8_table cX8_table 7 (some .int) 5 := ⟨yt_in 437 (by decide +kernel) rfl, yt_in 1 (by decide +kernel) rfl, by decide, by decide, by decide +kernel⟩
theorem mi_X8_table : Cond.instanceMethod yX8_table ∈ yTs := yt_in 435 (by decide +kernel) rfl
theorem mv_X8_table : yMv yX8_table := ⟨mi_X8_table, yt_in 436 (by decide +kernel) rfl⟩
theorem mt_X8_lamp : yMt yX8_lamp cX8_lamp 5 (some .int) 2 := ⟨yt_in 464 (by decide +kernel) rfl, yt_in 1 (by decide +kernel) rfl, by decide, by decide, by decide +kernel⟩
theorem mi_X8_lamp : Cond.instanceMethod yX8_lamp ∈ yTs := yt_in 462 (by decide +kernel) rfl
theorem mv_X8_lamp : yMv yX8_lamp := ⟨mi_X8_lamp, yt_in 463 (by decide +kernel) rfl⟩
theorem mt_X8_pair : yMt yX8_pair cX8_pair 6 (some .int) 3 := ⟨yt_in 468 (by decide +kernel) rfl, yt_in 1 (by decide +kernel) rfl, by decide, by decide, by decide +kernel⟩
theorem mi_X8_pair : Cond.instanceMethod yX8_pair ∈ yTs := yt_in 466 (by decide +kernel) rfl
theorem mv_X8_pair : yMv yX8_pair := ⟨mi_X8_pair, yt_in 467 (by decide +kernel) rfl⟩
theorem mt_X8_ask : yMt yX8_ask cX8_ask 3 (some .int) 1 := ⟨yt_in 491 (by decide +kernel) rfl, yt_in 1 (by decide +kernel) rfl, by decide, by decide, by decide +kernel⟩
theorem mi_X8_ask : Cond.instanceMethod yX8_ask ∈ yTs := yt_in 489 (by decide +kernel) rfl
theorem mv_X8_ask : yMv yX8_ask := ⟨mi_X8_ask, yt_in 490 (by decide +kernel) rfl⟩
theorem mt_X8_hurry : yMt yX8_hurry cX8_hurry 3 (some .int) 1 := ⟨yt_in 499 (by decide +kernel) rfl, yt_in 1 (by decide +kernel) rfl, by decide, by decide, by decide +kernel⟩
theorem mi_X8_hurry : Cond.instanceMethod yX8_hurry ∈ yTs := yt_in 497 (by decide +kernel) rfl
theorem mv_X8_hurry : yMv yX8_hurry := ⟨mi_X8_hurry, yt_in 498 (by decide +kernel) rfl⟩
theorem mt_X8_second : yMt yX8_second cX8_second 4 (some .int) 1 := ⟨yt_in 507 (by decide +kernel) rfl, yt_in 1 (by decide +kernel) rfl, by decide, by decide, by decide +kernel⟩
theorem mi_X8_second : Cond.instanceMethod yX8_second ∈ yTs := yt_in 505 (by decide +kernel) rfl
theorem mv_X8_second : yMv yX8_second := ⟨mi_X8_second, yt_in 506 (by decide +kernel) rfl⟩
theorem mt_X8_alarm : yMt yX8_alarm cX8_alarm 1 (some .int) 0 := ⟨yt_in 721 (by decide +kernel) rfl, yt_in 1 (by decide +kernel) rfl, by decide, by decide, by decide +kernel⟩
theorem mi_X8_alarm : Cond.instanceMethod yX8_alarm ∈ yTs := yt_in 719 (by decide +kernel) rfl
theorem mv_X8_alarm : yMv yX8_alarm := ⟨mi_X8_alarm, yt_in 720 (by decide +kernel) rfl⟩
theorem mt_X8_restore : yMt yX8_restore cX8_restore 1 (some .int) 0 := ⟨yt_in 725 (by decide +kernel) rfl, yt_in 1 (by decide +kernel) rfl, by decide, by decide, by decide +kernel⟩
theorem mi_X8_restore : Cond.instanceMethod yX8_restore ∈ yTs := yt_in 723 (by decide +kernel) rfl
theorem mv_X8_restore : yMv yX8_restore := ⟨mi_X8_restore, yt_in 724 (by decide +kernel) rfl⟩
theorem mt_X8_light : yMt yX8_light cX8_light 3 (some .int) 1 := ⟨yt_in 729 (by decide +kernel) rfl, yt_in 1 (by decide +kernel) rfl, by decide, by decide, by decide +kernel⟩
theorem mi_X8_light : Cond.instanceMethod yX8_light ∈ yTs := yt_in 727 (by decide +kernel) rfl
theorem mv_X8_light : yMv yX8_light := ⟨mi_X8_light, yt_in 728 (by decide +kernel) rfl⟩
theorem mt_X8_was : yMt yX8_was cX8_was 4 (some .int) 2 := ⟨yt_in 733 (by decide +kernel) rfl, yt_in 1 (by decide +kernel) rfl, by decide, by decide, by decide +kernel⟩
theorem mi_X8_was : Cond.instanceMethod yX8_was ∈ yTs := yt_in 731 (by decide +kernel) rfl
theorem mv_X8_was : yMv yX8_was := ⟨mi_X8_was, yt_in 732 (by decide +kernel) rfl⟩
theorem mt_X8_stageOf : yMt yX8_stageOf cX8_stageOf 2 (some .int) 1 := ⟨yt_in 741 (by decide +kernel) rfl, yt_in 1 (by decide +kernel) rfl, by decide, by decide, by decide +kernel⟩
theorem mi_X8_stageOf : Cond.instanceMethod yX8_stageOf ∈ yTs := yt_in 739 (by decide +kernel) rfl
theorem mv_X8_stageOf : yMv yX8_stageOf := ⟨mi_X8_stageOf, yt_in 740 (by decide +kernel) rfl⟩
theorem mt_X8_place : yMt yX8_place cX8_place 5 (some .int) 2 := ⟨yt_in 748 (by decide +kernel) rfl, yt_in 1 (by decide +kernel) rfl, by decide, by decide, by decide +kernel⟩
theorem mi_X8_place : Cond.instanceMethod yX8_place ∈ yTs := yt_in 746 (by decide +kernel) rfl
theorem mv_X8_place : yMv yX8_place := ⟨mi_X8_place, yt_in 747 (by decide +kernel) rfl⟩
theorem mt_X8_told : yMt yX8_told cX8_told 4 (some .int) 2 := ⟨yt_in 756 (by decide +kernel) rfl, yt_in 1 (by decide +kernel) rfl, by decide, by decide, by decide +kernel⟩
theorem mi_X8_told : Cond.instanceMethod yX8_told ∈ yTs := yt_in 754 (by decide +kernel) rfl
theorem mv_X8_told : yMv yX8_told := ⟨mi_X8_told, yt_in 755 (by decide +kernel) rfl⟩
theorem mt_X8_length : yMt yX8_length cX8_length 3 (some .int) 1 := ⟨yt_in 760 (by decide +kernel) rfl, yt_in 1 (by decide +kernel) rfl, by decide, by decide, by decide +kernel⟩
theorem mi_X8_length : Cond.instanceMethod yX8_length ∈ yTs := yt_in 758 (by decide +kernel) rfl
theorem mv_X8_length : yMv yX8_length := ⟨mi_X8_length, yt_in 759 (by decide +kernel) rfl⟩
theorem mt_X8_bound : yMt yX8_bound cX8_bound 5 (some .int) 0 := ⟨yt_in 764 (by decide +kernel) rfl, yt_in 1 (by decide +kernel) rfl, by decide, by decide, by decide +kernel⟩
theorem mi_X8_bound : Cond.instanceMethod yX8_bound ∈ yTs := yt_in 762 (by decide +kernel) rfl
theorem mv_X8_bound : yMv yX8_bound := ⟨mi_X8_bound, yt_in 763 (by decide +kernel) rfl⟩
theorem mt_X8_count : yMt yX8_count cX8_count 2 (some .int) 1 := ⟨yt_in 773 (by decide +kernel) rfl, yt_in 1 (by decide +kernel) rfl, by decide, by decide, by decide +kernel⟩
theorem mi_X8_count : Cond.instanceMethod yX8_count ∈ yTs := yt_in 771 (by decide +kernel) rfl
theorem mv_X8_count : yMv yX8_count := ⟨mi_X8_count, yt_in 772 (by decide +kernel) rfl⟩
theorem mt_X8_finding : yMt yX8_finding cX8_finding 2 (some .int) 1 := ⟨yt_in 781 (by decide +kernel) rfl, yt_in 1 (by decide +kernel) rfl, by decide, by decide, by decide +kernel⟩
theorem mi_X8_finding : Cond.instanceMethod yX8_finding ∈ yTs := yt_in 779 (by decide +kernel) rfl
theorem mv_X8_finding : yMv yX8_finding := ⟨mi_X8_finding, yt_in 780 (by decide +kernel) rfl⟩
theorem mt_X8_fault : yMt yX8_fault cX8_fault 2 (some .int) 1 := ⟨yt_in 785 (by decide +kernel) rfl, yt_in 1 (by decide +kernel) rfl, by decide, by decide, by decide +kernel⟩
theorem mi_X8_fault : Cond.instanceMethod yX8_fault ∈ yTs := yt_in 783 (by decide +kernel) rfl
theorem mv_X8_fault : yMv yX8_fault := ⟨mi_X8_fault, yt_in 784 (by decide +kernel) rfl⟩
theorem mt_X8_trace : yMt yX8_trace cX8_trace 1 (some .int) 0 := ⟨yt_in 789 (by decide +kernel) rfl, yt_in 1 (by decide +kernel) rfl, by decide, by decide, by decide +kernel⟩
theorem mi_X8_trace : Cond.instanceMethod yX8_trace ∈ yTs := yt_in 787 (by decide +kernel) rfl
theorem mv_X8_trace : yMv yX8_trace := ⟨mi_X8_trace, yt_in 788 (by decide +kernel) rfl⟩
theorem mt_X8_isWithin : yMt yX8_isWithin cX8_isWithin 3 (some .boolean) 3 := ⟨yt_in 336 (by decide +kernel) rfl, yt_in 1 (by decide +kernel) rfl, by decide, by decide, by decide +kernel⟩
theorem ms_X8_isWithin : Cond.static yX8_isWithin ∈ yTs := yt_in 335 (by decide +kernel) rfl
theorem mt_X8_phaseAt : yMt yX8_phaseAt cX8_phaseAt 2 (some (.object "CrossingKeeper$Phase")) 1 := ⟨yt_in 319 (by decide +kernel) rfl, yt_in 1 (by decide +kernel) rfl, by decide, by decide, by decide +kernel⟩
theorem mi_X8_phaseAt : Cond.instanceMethod yX8_phaseAt ∈ yTs := yt_in 318 (by decide +kernel) rfl
theorem mv_X8_phaseAt : yMv yX8_phaseAt := ⟨mi_X8_phaseAt, yt_sel 3 (by decide +kernel) rfl⟩
theorem mt_X8_stageAt : yMt yX8_stageAt cX8_stageAt 2 (some (.object "CrossingKeeper$Stage")) 1 := ⟨yt_in 503 (by decide +kernel) rfl, yt_in 1 (by decide +kernel) rfl, by decide, by decide, by decide +kernel⟩
theorem mi_X8_stageAt : Cond.instanceMethod yX8_stageAt ∈ yTs := yt_in 502 (by decide +kernel) rfl
theorem mv_X8_stageAt : yMv yX8_stageAt := ⟨mi_X8_stageAt, yt_sel 5 (by decide +kernel) rfl⟩
theorem mt_X8_detectorAt : yMt yX8_detectorAt cX8_detectorAt 2 (some (.object "CrossingKeeper$Detector")) 1 := ⟨yt_in 416 (by decide +kernel) rfl, yt_in 1 (by decide +kernel) rfl, by decide, by decide, by decide +kernel⟩
theorem mi_X8_detectorAt : Cond.instanceMethod yX8_detectorAt ∈ yTs := yt_in 415 (by decide +kernel) rfl
theorem mv_X8_detectorAt : yMv yX8_detectorAt := ⟨mi_X8_detectorAt, yt_sel 4 (by decide +kernel) rfl⟩
theorem mt_X8_numberOf : yMt yX8_numberOf cX8_numberOf 1 (some .int) 1 := ⟨yt_in 744 (by decide +kernel) rfl, yt_in 1 (by decide +kernel) rfl, by decide, by decide, by decide +kernel⟩
theorem ms_X8_numberOf : Cond.static yX8_numberOf ∈ yTs := yt_in 743 (by decide +kernel) rfl
theorem mt_X8_doOrders : yMt yX8_doOrders cX8_doOrders 3 none 1 := ⟨yt_in 511 (by decide +kernel) rfl, yt_in 1 (by decide +kernel) rfl, by decide, by decide, by decide +kernel⟩
theorem mi_X8_doOrders : Cond.instanceMethod yX8_doOrders ∈ yTs := yt_in 510 (by decide +kernel) rfl
theorem mv_X8_doOrders : yMv yX8_doOrders := ⟨mi_X8_doOrders, yt_sel 6 (by decide +kernel) rfl⟩
theorem mt_X8_runLights : yMt yX8_runLights cX8_runLights 4 none 1 := ⟨yt_in 528 (by decide +kernel) rfl, yt_in 1 (by decide +kernel) rfl, by decide, by decide, by decide +kernel⟩
theorem mi_X8_runLights : Cond.instanceMethod yX8_runLights ∈ yTs := yt_in 527 (by decide +kernel) rfl
theorem mv_X8_runLights : yMv yX8_runLights := ⟨mi_X8_runLights, yt_sel 8 (by decide +kernel) rfl⟩
theorem mt_X8_keepLights : yMt yX8_keepLights cX8_keepLights 3 none 1 := ⟨yt_in 712 (by decide +kernel) rfl, yt_in 1 (by decide +kernel) rfl, by decide, by decide, by decide +kernel⟩
theorem mi_X8_keepLights : Cond.instanceMethod yX8_keepLights ∈ yTs := yt_in 711 (by decide +kernel) rfl
theorem mv_X8_keepLights : yMv yX8_keepLights := ⟨mi_X8_keepLights, yt_sel 35 (by decide +kernel) rfl⟩
theorem mt_X8_readPhases : yMt yX8_readPhases cX8_readPhases 4 none 1 := ⟨yt_in 532 (by decide +kernel) rfl, yt_in 1 (by decide +kernel) rfl, by decide, by decide, by decide +kernel⟩
theorem mi_X8_readPhases : Cond.instanceMethod yX8_readPhases ∈ yTs := yt_in 531 (by decide +kernel) rfl
theorem mv_X8_readPhases : yMv yX8_readPhases := ⟨mi_X8_readPhases, yt_sel 9 (by decide +kernel) rfl⟩
theorem mt_X8_holdsIn : yMt yX8_holdsIn cX8_holdsIn 4 (some .boolean) 2 := ⟨yt_in 536 (by decide +kernel) rfl, yt_in 1 (by decide +kernel) rfl, by decide, by decide, by decide +kernel⟩
theorem mi_X8_holdsIn : Cond.instanceMethod yX8_holdsIn ∈ yTs := yt_in 535 (by decide +kernel) rfl
theorem mv_X8_holdsIn : yMv yX8_holdsIn := ⟨mi_X8_holdsIn, yt_sel 10 (by decide +kernel) rfl⟩
theorem mt_X8_asksIn : yMt yX8_asksIn cX8_asksIn 4 (some .boolean) 2 := ⟨yt_in 577 (by decide +kernel) rfl, yt_in 1 (by decide +kernel) rfl, by decide, by decide, by decide +kernel⟩
theorem mi_X8_asksIn : Cond.instanceMethod yX8_asksIn ∈ yTs := yt_in 576 (by decide +kernel) rfl
theorem mv_X8_asksIn : yMv yX8_asksIn := ⟨mi_X8_asksIn, yt_sel 16 (by decide +kernel) rfl⟩
theorem mt_X8_rowsUntil : yMt yX8_rowsUntil cX8_rowsUntil 4 (some (.object "CrossingKeeper$Detector")) 2 := ⟨yt_in 560 (by decide +kernel) rfl, yt_in 1 (by decide +kernel) rfl, by decide, by decide, by decide +kernel⟩
theorem mi_X8_rowsUntil : Cond.instanceMethod yX8_rowsUntil ∈ yTs := yt_in 559 (by decide +kernel) rfl
theorem mv_X8_rowsUntil : yMv yX8_rowsUntil := ⟨mi_X8_rowsUntil, yt_sel 15 (by decide +kernel) rfl⟩
theorem mt_X8_endsIn : yMt yX8_endsIn cX8_endsIn 4 (some .boolean) 2 := ⟨yt_in 657 (by decide +kernel) rfl, yt_in 1 (by decide +kernel) rfl, by decide, by decide, by decide +kernel⟩
theorem mi_X8_endsIn : Cond.instanceMethod yX8_endsIn ∈ yTs := yt_in 656 (by decide +kernel) rfl
theorem mv_X8_endsIn : yMv yX8_endsIn := ⟨mi_X8_endsIn, yt_sel 28 (by decide +kernel) rfl⟩
theorem mt_X8_endStage : yMt yX8_endStage cX8_endStage 7 none 2 := ⟨yt_in 677 (by decide +kernel) rfl, yt_in 1 (by decide +kernel) rfl, by decide, by decide, by decide +kernel⟩
theorem mi_X8_endStage : Cond.instanceMethod yX8_endStage ∈ yTs := yt_in 676 (by decide +kernel) rfl
theorem mv_X8_endStage : yMv yX8_endStage := ⟨mi_X8_endStage, yt_sel 30 (by decide +kernel) rfl⟩
theorem mt_X8_setEnd : yMt yX8_setEnd cX8_setEnd 6 none 2 := ⟨yt_in 647 (by decide +kernel) rfl, yt_in 1 (by decide +kernel) rfl, by decide, by decide, by decide +kernel⟩
theorem mi_X8_setEnd : Cond.instanceMethod yX8_setEnd ∈ yTs := yt_in 646 (by decide +kernel) rfl
theorem mv_X8_setEnd : yMv yX8_setEnd := ⟨mi_X8_setEnd, yt_sel 27 (by decide +kernel) rfl⟩
theorem mt_X8_endAmbers : yMt yX8_endAmbers cX8_endAmbers 4 none 1 := ⟨yt_in 681 (by decide +kernel) rfl, yt_in 1 (by decide +kernel) rfl, by decide, by decide, by decide +kernel⟩
theorem mi_X8_endAmbers : Cond.instanceMethod yX8_endAmbers ∈ yTs := yt_in 680 (by decide +kernel) rfl
theorem mv_X8_endAmbers : yMv yX8_endAmbers := ⟨mi_X8_endAmbers, yt_sel 31 (by decide +kernel) rfl⟩
theorem mt_X8_beginStage : yMt yX8_beginStage cX8_beginStage 7 none 2 := ⟨yt_in 689 (by decide +kernel) rfl, yt_in 1 (by decide +kernel) rfl, by decide, by decide, by decide +kernel⟩
theorem mi_X8_beginStage : Cond.instanceMethod yX8_beginStage ∈ yTs := yt_in 688 (by decide +kernel) rfl
theorem mv_X8_beginStage : yMv yX8_beginStage := ⟨mi_X8_beginStage, yt_sel 32 (by decide +kernel) rfl⟩
theorem mt_X8_nextStage : yMt yX8_nextStage cX8_nextStage 7 (some (.object "CrossingKeeper$Stage")) 0 := ⟨yt_in 661 (by decide +kernel) rfl, yt_in 1 (by decide +kernel) rfl, by decide, by decide, by decide +kernel⟩
theorem mi_X8_nextStage : Cond.instanceMethod yX8_nextStage ∈ yTs := yt_in 660 (by decide +kernel) rfl
theorem mv_X8_nextStage : yMv yX8_nextStage := ⟨mi_X8_nextStage, yt_sel 29 (by decide +kernel) rfl⟩
theorem mt_X8_changeLight : yMt yX8_changeLight cX8_changeLight 4 none 3 := ⟨yt_in 639 (by decide +kernel) rfl, yt_in 1 (by decide +kernel) rfl, by decide, by decide, by decide +kernel⟩
theorem mi_X8_changeLight : Cond.instanceMethod yX8_changeLight ∈ yTs := yt_in 638 (by decide +kernel) rfl
theorem mv_X8_changeLight : yMv yX8_changeLight := ⟨mi_X8_changeLight, yt_sel 25 (by decide +kernel) rfl⟩
theorem mt_X8_changeAllLights : yMt yX8_changeAllLights cX8_changeAllLights 3 none 1 := ⟨yt_in 708 (by decide +kernel) rfl, yt_in 1 (by decide +kernel) rfl, by decide, by decide, by decide +kernel⟩
theorem mi_X8_changeAllLights : Cond.instanceMethod yX8_changeAllLights ∈ yTs := yt_in 707 (by decide +kernel) rfl
theorem mv_X8_changeAllLights : yMv yX8_changeAllLights := ⟨mi_X8_changeAllLights, yt_sel 34 (by decide +kernel) rfl⟩
theorem mt_X8_gapOf : yMt yX8_gapOf cX8_gapOf 6 (some .int) 2 := ⟨yt_in 643 (by decide +kernel) rfl, yt_in 1 (by decide +kernel) rfl, by decide, by decide, by decide +kernel⟩
theorem mi_X8_gapOf : Cond.instanceMethod yX8_gapOf ∈ yTs := yt_in 642 (by decide +kernel) rfl
theorem mv_X8_gapOf : yMv yX8_gapOf := ⟨mi_X8_gapOf, yt_sel 26 (by decide +kernel) rfl⟩
theorem mt_X8_lookAtPairs : yMt yX8_lookAtPairs cX8_lookAtPairs 3 none 1 := ⟨yt_in 605 (by decide +kernel) rfl, yt_in 1 (by decide +kernel) rfl, by decide, by decide, by decide +kernel⟩
theorem mi_X8_lookAtPairs : Cond.instanceMethod yX8_lookAtPairs ∈ yTs := yt_in 604 (by decide +kernel) rfl
theorem mv_X8_lookAtPairs : yMv yX8_lookAtPairs := ⟨mi_X8_lookAtPairs, yt_sel 21 (by decide +kernel) rfl⟩
theorem mt_X8_faultToMeet : yMt yX8_faultToMeet cX8_faultToMeet 3 (some .int) 0 := ⟨yt_in 619 (by decide +kernel) rfl, yt_in 1 (by decide +kernel) rfl, by decide, by decide, by decide +kernel⟩
theorem mi_X8_faultToMeet : Cond.instanceMethod yX8_faultToMeet ∈ yTs := yt_in 618 (by decide +kernel) rfl
theorem mv_X8_faultToMeet : yMv yX8_faultToMeet := ⟨mi_X8_faultToMeet, yt_sel 23 (by decide +kernel) rfl⟩
theorem mt_X8_meetFault : yMt yX8_meetFault cX8_meetFault 5 none 2 := ⟨yt_in 631 (by decide +kernel) rfl, yt_in 1 (by decide +kernel) rfl, by decide, by decide, by decide +kernel⟩
theorem mi_X8_meetFault : Cond.instanceMethod yX8_meetFault ∈ yTs := yt_in 630 (by decide +kernel) rfl
theorem mv_X8_meetFault : yMv yX8_meetFault := ⟨mi_X8_meetFault, yt_sel 24 (by decide +kernel) rfl⟩
theorem mt_X8_flashIfDue : yMt yX8_flashIfDue cX8_flashIfDue 2 none 1 := ⟨yt_in 704 (by decide +kernel) rfl, yt_in 1 (by decide +kernel) rfl, by decide, by decide, by decide +kernel⟩
theorem mi_X8_flashIfDue : Cond.instanceMethod yX8_flashIfDue ∈ yTs := yt_in 703 (by decide +kernel) rfl
theorem mv_X8_flashIfDue : yMv yX8_flashIfDue := ⟨mi_X8_flashIfDue, yt_sel 33 (by decide +kernel) rfl⟩
theorem mt_X9_init : yMt yX9_init cX9_init 1 none 0 := ⟨yt_in 794 (by decide +kernel) rfl, yt_in 8 (by decide +kernel) rfl, by decide, by decide, by decide +kernel⟩
theorem mi_X9_init : Cond.instanceMethod yX9_init ∈ yTs := yt_in 793 (by decide +kernel) rfl
theorem mt_X9_in : yMt yX9_in cX9_in 3 (some .boolean) 3 := ⟨yt_in 963 (by decide +kernel) rfl, yt_in 8 (by decide +kernel) rfl, by decide, by decide, by decide +kernel⟩
theorem ms_X9_in : Cond.static yX9_in ∈ yTs := yt_in 962 (by decide +kernel) rfl
theorem mt_X9_isPhase : yMt yX9_isPhase cX9_isPhase 2 (some .boolean) 1 := ⟨yt_in 971 (by decide +kernel) rfl, yt_in 8 (by decide +kernel) rfl, by decide, by decide, by decide +kernel⟩
theorem mi_X9_isPhase : Cond.instanceMethod yX9_isPhase ∈ yTs := yt_in 970 (by decide +kernel) rfl
theorem mv_X9_isPhase : yMv yX9_isPhase := ⟨mi_X9_isPhase, yt_sel 36 (by decide +kernel) rfl⟩
theorem mt_X9_isStage : yMt yX9_isStage cX9_isStage 2 (some .boolean) 1 := ⟨yt_in 1023 (by decide +kernel) rfl, yt_in 8 (by decide +kernel) rfl, by decide, by decide, by decide +kernel⟩
theorem mi_X9_isStage : Cond.instanceMethod yX9_isStage ∈ yTs := yt_in 1022 (by decide +kernel) rfl
theorem mv_X9_isStage : yMv yX9_isStage := ⟨mi_X9_isStage, yt_sel 40 (by decide +kernel) rfl⟩
theorem mt_X9_isDetector : yMt yX9_isDetector cX9_isDetector 2 (some .boolean) 1 := ⟨yt_in 995 (by decide +kernel) rfl, yt_in 8 (by decide +kernel) rfl, by decide, by decide, by decide +kernel⟩
theorem mi_X9_isDetector : Cond.instanceMethod yX9_isDetector ∈ yTs := yt_in 994 (by decide +kernel) rfl
theorem mv_X9_isDetector : yMv yX9_isDetector := ⟨mi_X9_isDetector, yt_sel 39 (by decide +kernel) rfl⟩
theorem mt_X9_meets : yMt yX9_meets cX9_meets 3 (some .boolean) 2 := ⟨yt_in 983 (by decide +kernel) rfl, yt_in 8 (by decide +kernel) rfl, by decide, by decide, by decide +kernel⟩
theorem mi_X9_meets : Cond.instanceMethod yX9_meets ∈ yTs := yt_in 982 (by decide +kernel) rfl
theorem mv_X9_meets : yMv yX9_meets := ⟨mi_X9_meets, yt_sel 38 (by decide +kernel) rfl⟩
theorem mt_X9_phase : yMt yX9_phase cX9_phase 2 (some .int) 1 := ⟨yt_in 960 (by decide +kernel) rfl, yt_in 8 (by decide +kernel) rfl, by decide, by decide, by decide +kernel⟩
theorem mi_X9_phase : Cond.instanceMethod yX9_phase ∈ yTs := yt_in 958 (by decide +kernel) rfl
theorem mv_X9_phase : yMv yX9_phase := ⟨mi_X9_phase, yt_in 959 (by decide +kernel) rfl⟩
theorem mt_X9_has : yMt yX9_has cX9_has 5 (some .boolean) 2 := ⟨yt_in 975 (by decide +kernel) rfl, yt_in 8 (by decide +kernel) rfl, by decide, by decide, by decide +kernel⟩
theorem mi_X9_has : Cond.instanceMethod yX9_has ∈ yTs := yt_in 974 (by decide +kernel) rfl
theorem mv_X9_has : yMv yX9_has := ⟨mi_X9_has, yt_sel 37 (by decide +kernel) rfl⟩
theorem mt_X9_conflict : yMt yX9_conflict cX9_conflict 6 (some .int) 4 := ⟨yt_in 967 (by decide +kernel) rfl, yt_in 8 (by decide +kernel) rfl, by decide, by decide, by decide +kernel⟩
theorem mi_X9_conflict : Cond.instanceMethod yX9_conflict ∈ yTs := yt_in 965 (by decide +kernel) rfl
theorem mv_X9_conflict : yMv yX9_conflict := ⟨mi_X9_conflict, yt_in 966 (by decide +kernel) rfl⟩
theorem mt_X9_stage : yMt yX9_stage cX9_stage 10 (some .int) 4 := ⟨yt_in 979 (by decide +kernel) rfl, yt_in 8 (by decide +kernel) rfl, by decide, by decide, by decide +kernel⟩
theorem mi_X9_stage : Cond.instanceMethod yX9_stage ∈ yTs := yt_in 977 (by decide +kernel) rfl
theorem mv_X9_stage : yMv yX9_stage := ⟨mi_X9_stage, yt_in 978 (by decide +kernel) rfl⟩
theorem mt_X9_detector : yMt yX9_detector cX9_detector 2 (some .int) 1 := ⟨yt_in 987 (by decide +kernel) rfl, yt_in 8 (by decide +kernel) rfl, by decide, by decide, by decide +kernel⟩
theorem mi_X9_detector : Cond.instanceMethod yX9_detector ∈ yTs := yt_in 985 (by decide +kernel) rfl
theorem mv_X9_detector : yMv yX9_detector := ⟨mi_X9_detector, yt_in 986 (by decide +kernel) rfl⟩
theorem mt_X9_cut : yMt yX9_cut cX9_cut 3 (some .int) 1 := ⟨yt_in 991 (by decide +kernel) rfl, yt_in 8 (by decide +kernel) rfl, by decide, by decide, by decide +kernel⟩
theorem mi_X9_cut : Cond.instanceMethod yX9_cut ∈ yTs := yt_in 989 (by decide +kernel) rfl
theorem mv_X9_cut : yMv yX9_cut := ⟨mi_X9_cut, yt_in 990 (by decide +kernel) rfl⟩
theorem mt_X9_passing : yMt yX9_passing cX9_passing 4 (some .int) 3 := ⟨yt_in 999 (by decide +kernel) rfl, yt_in 8 (by decide +kernel) rfl, by decide, by decide, by decide +kernel⟩
theorem mi_X9_passing : Cond.instanceMethod yX9_passing ∈ yTs := yt_in 997 (by decide +kernel) rfl
theorem mv_X9_passing : yMv yX9_passing := ⟨mi_X9_passing, yt_in 998 (by decide +kernel) rfl⟩
theorem mt_X9_table : yMt yX9_table cX9_table 6 (some .int) 5 := ⟨yt_in 1003 (by decide +kernel) rfl, yt_in 8 (by decide +kernel) rfl, by decide, by decide, by decide +kernel⟩
theorem mi_X9_table : Cond.instanceMethod yX9_table ∈ yTs := yt_in 1001 (by decide +kernel) rfl
theorem mv_X9_table : yMv yX9_table := ⟨mi_X9_table, yt_in 1002 (by decide +kernel) rfl⟩
theorem mt_X9_lamp : yMt yX9_lamp cX9_lamp 4 (some .int) 2 := ⟨yt_in 1007 (by decide +kernel) rfl, yt_in 8 (by decide +kernel) rfl, by decide, by decide, by decide +kernel⟩
theorem mi_X9_lamp : Cond.instanceMethod yX9_lamp ∈ yTs := yt_in 1005 (by decide +kernel) rfl
theorem mv_X9_lamp : yMv yX9_lamp := ⟨mi_X9_lamp, yt_in 1006 (by decide +kernel) rfl⟩
theorem mt_X9_pair : yMt yX9_pair cX9_pair 4 (some .int) 3 := ⟨yt_in 1011 (by decide +kernel) rfl, yt_in 8 (by decide +kernel) rfl, by decide, by decide, by decide +kernel⟩
theorem mi_X9_pair : Cond.instanceMethod yX9_pair ∈ yTs := yt_in 1009 (by decide +kernel) rfl
theorem mv_X9_pair : yMv yX9_pair := ⟨mi_X9_pair, yt_in 1010 (by decide +kernel) rfl⟩
theorem mt_X9_ask : yMt yX9_ask cX9_ask 2 (some .int) 1 := ⟨yt_in 1015 (by decide +kernel) rfl, yt_in 8 (by decide +kernel) rfl, by decide, by decide, by decide +kernel⟩
theorem mi_X9_ask : Cond.instanceMethod yX9_ask ∈ yTs := yt_in 1013 (by decide +kernel) rfl
theorem mv_X9_ask : yMv yX9_ask := ⟨mi_X9_ask, yt_in 1014 (by decide +kernel) rfl⟩
theorem mt_X9_hurry : yMt yX9_hurry cX9_hurry 2 (some .int) 1 := ⟨yt_in 1019 (by decide +kernel) rfl, yt_in 8 (by decide +kernel) rfl, by decide, by decide, by decide +kernel⟩
theorem mi_X9_hurry : Cond.instanceMethod yX9_hurry ∈ yTs := yt_in 1017 (by decide +kernel) rfl
theorem mv_X9_hurry : yMv yX9_hurry := ⟨mi_X9_hurry, yt_in 1018 (by decide +kernel) rfl⟩
theorem mt_X9_alarm : yMt yX9_alarm cX9_alarm 1 (some .int) 0 := ⟨yt_in 1027 (by decide +kernel) rfl, yt_in 8 (by decide +kernel) rfl, by decide, by decide, by decide +kernel⟩
theorem mi_X9_alarm : Cond.instanceMethod yX9_alarm ∈ yTs := yt_in 1025 (by decide +kernel) rfl
theorem mv_X9_alarm : yMv yX9_alarm := ⟨mi_X9_alarm, yt_in 1026 (by decide +kernel) rfl⟩
theorem mt_X9_found : yMt yX9_found cX9_found 3 none 2 := ⟨yt_in 1051 (by decide +kernel) rfl, yt_in 8 (by decide +kernel) rfl, by decide, by decide, by decide +kernel⟩
theorem mi_X9_found : Cond.instanceMethod yX9_found ∈ yTs := yt_in 1050 (by decide +kernel) rfl
theorem mv_X9_found : yMv yX9_found := ⟨mi_X9_found, yt_sel 45 (by decide +kernel) rfl⟩
theorem mt_X9_readAt : yMt yX9_readAt cX9_readAt 3 (some .int) 1 := ⟨yt_in 1063 (by decide +kernel) rfl, yt_in 8 (by decide +kernel) rfl, by decide, by decide, by decide +kernel⟩
theorem mi_X9_readAt : Cond.instanceMethod yX9_readAt ∈ yTs := yt_in 1062 (by decide +kernel) rfl
theorem mv_X9_readAt : yMv yX9_readAt := ⟨mi_X9_readAt, yt_sel 48 (by decide +kernel) rfl⟩
theorem mt_X9_asksOfCar : yMt yX9_asksOfCar cX9_asksOfCar 2 (some .boolean) 1 := ⟨yt_in 1071 (by decide +kernel) rfl, yt_in 8 (by decide +kernel) rfl, by decide, by decide, by decide +kernel⟩
theorem mi_X9_asksOfCar : Cond.instanceMethod yX9_asksOfCar ∈ yTs := yt_in 1070 (by decide +kernel) rfl
theorem mv_X9_asksOfCar : yMv yX9_asksOfCar := ⟨mi_X9_asksOfCar, yt_sel 50 (by decide +kernel) rfl⟩
theorem mt_X9_doesAsk : yMt yX9_doesAsk cX9_doesAsk 3 (some .boolean) 1 := ⟨yt_in 1067 (by decide +kernel) rfl, yt_in 8 (by decide +kernel) rfl, by decide, by decide, by decide +kernel⟩
theorem mi_X9_doesAsk : Cond.instanceMethod yX9_doesAsk ∈ yTs := yt_in 1066 (by decide +kernel) rfl
theorem mv_X9_doesAsk : yMv yX9_doesAsk := ⟨mi_X9_doesAsk, yt_sel 49 (by decide +kernel) rfl⟩
theorem mt_X9_doesHold : yMt yX9_doesHold cX9_doesHold 3 (some .boolean) 1 := ⟨yt_in 1059 (by decide +kernel) rfl, yt_in 8 (by decide +kernel) rfl, by decide, by decide, by decide +kernel⟩
theorem mi_X9_doesHold : Cond.instanceMethod yX9_doesHold ∈ yTs := yt_in 1058 (by decide +kernel) rfl
theorem mv_X9_doesHold : yMv yX9_doesHold := ⟨mi_X9_doesHold, yt_sel 47 (by decide +kernel) rfl⟩
theorem mt_X9_change : yMt yX9_change cX9_change 3 none 2 := ⟨yt_in 1043 (by decide +kernel) rfl, yt_in 8 (by decide +kernel) rfl, by decide, by decide, by decide +kernel⟩
theorem mi_X9_change : Cond.instanceMethod yX9_change ∈ yTs := yt_in 1042 (by decide +kernel) rfl
theorem mv_X9_change : yMv yX9_change := ⟨mi_X9_change, yt_sel 43 (by decide +kernel) rfl⟩
theorem mt_X9_gapOf : yMt yX9_gapOf cX9_gapOf 5 (some .int) 1 := ⟨yt_in 1047 (by decide +kernel) rfl, yt_in 8 (by decide +kernel) rfl, by decide, by decide, by decide +kernel⟩
theorem mi_X9_gapOf : Cond.instanceMethod yX9_gapOf ∈ yTs := yt_in 1046 (by decide +kernel) rfl
theorem mv_X9_gapOf : yMv yX9_gapOf := ⟨mi_X9_gapOf, yt_sel 44 (by decide +kernel) rfl⟩
theorem mt_X9_endsIn : yMt yX9_endsIn cX9_endsIn 5 none 2 := ⟨yt_in 1083 (by decide +kernel) rfl, yt_in 8 (by decide +kernel) rfl, by decide, by decide, by decide +kernel⟩
theorem mi_X9_endsIn : Cond.instanceMethod yX9_endsIn ∈ yTs := yt_in 1082 (by decide +kernel) rfl
theorem mv_X9_endsIn : yMv yX9_endsIn := ⟨mi_X9_endsIn, yt_sel 53 (by decide +kernel) rfl⟩
theorem mt_X9_leastOf : yMt yX9_leastOf cX9_leastOf 5 (some .int) 1 := ⟨yt_in 1107 (by decide +kernel) rfl, yt_in 8 (by decide +kernel) rfl, by decide, by decide, by decide +kernel⟩
theorem mi_X9_leastOf : Cond.instanceMethod yX9_leastOf ∈ yTs := yt_in 1106 (by decide +kernel) rfl
theorem mv_X9_leastOf : yMv yX9_leastOf := ⟨mi_X9_leastOf, yt_sel 59 (by decide +kernel) rfl⟩
theorem mt_X9_greatestOf : yMt yX9_greatestOf cX9_greatestOf 5 (some .int) 1 := ⟨yt_in 1111 (by decide +kernel) rfl, yt_in 8 (by decide +kernel) rfl, by decide, by decide, by decide +kernel⟩
theorem mi_X9_greatestOf : Cond.instanceMethod yX9_greatestOf ∈ yTs := yt_in 1110 (by decide +kernel) rfl
theorem mv_X9_greatestOf : yMv yX9_greatestOf := ⟨mi_X9_greatestOf, yt_sel 60 (by decide +kernel) rfl⟩
theorem mt_X9_askedFirst : yMt yX9_askedFirst cX9_askedFirst 5 (some .int) 1 := ⟨yt_in 1095 (by decide +kernel) rfl, yt_in 8 (by decide +kernel) rfl, by decide, by decide, by decide +kernel⟩
theorem mi_X9_askedFirst : Cond.instanceMethod yX9_askedFirst ∈ yTs := yt_in 1094 (by decide +kernel) rfl
theorem mv_X9_askedFirst : yMv yX9_askedFirst := ⟨mi_X9_askedFirst, yt_sel 56 (by decide +kernel) rfl⟩
theorem mt_X9_next : yMt yX9_next cX9_next 6 (some .int) 0 := ⟨yt_in 1103 (by decide +kernel) rfl, yt_in 8 (by decide +kernel) rfl, by decide, by decide, by decide +kernel⟩
theorem mi_X9_next : Cond.instanceMethod yX9_next ∈ yTs := yt_in 1102 (by decide +kernel) rfl
theorem mv_X9_next : yMv yX9_next := ⟨mi_X9_next, yt_sel 58 (by decide +kernel) rfl⟩
theorem mt_X9_doOrders : yMt yX9_doOrders cX9_doOrders 4 none 0 := ⟨yt_in 1039 (by decide +kernel) rfl, yt_in 8 (by decide +kernel) rfl, by decide, by decide, by decide +kernel⟩
theorem mi_X9_doOrders : Cond.instanceMethod yX9_doOrders ∈ yTs := yt_in 1038 (by decide +kernel) rfl
theorem mv_X9_doOrders : yMv yX9_doOrders := ⟨mi_X9_doOrders, yt_sel 42 (by decide +kernel) rfl⟩
theorem mt_X9_readAll : yMt yX9_readAll cX9_readAll 5 none 0 := ⟨yt_in 1055 (by decide +kernel) rfl, yt_in 8 (by decide +kernel) rfl, by decide, by decide, by decide +kernel⟩
theorem mi_X9_readAll : Cond.instanceMethod yX9_readAll ∈ yTs := yt_in 1054 (by decide +kernel) rfl
theorem mv_X9_readAll : yMv yX9_readAll := ⟨mi_X9_readAll, yt_sel 46 (by decide +kernel) rfl⟩
theorem mt_X9_faultNow : yMt yX9_faultNow cX9_faultNow 2 (some .int) 0 := ⟨yt_in 1075 (by decide +kernel) rfl, yt_in 8 (by decide +kernel) rfl, by decide, by decide, by decide +kernel⟩
theorem mi_X9_faultNow : Cond.instanceMethod yX9_faultNow ∈ yTs := yt_in 1074 (by decide +kernel) rfl
theorem mv_X9_faultNow : yMv yX9_faultNow := ⟨mi_X9_faultNow, yt_sel 51 (by decide +kernel) rfl⟩
theorem mt_X9_meetFault : yMt yX9_meetFault cX9_meetFault 3 none 1 := ⟨yt_in 1079 (by decide +kernel) rfl, yt_in 8 (by decide +kernel) rfl, by decide, by decide, by decide +kernel⟩
theorem mi_X9_meetFault : Cond.instanceMethod yX9_meetFault ∈ yTs := yt_in 1078 (by decide +kernel) rfl
theorem mv_X9_meetFault : yMv yX9_meetFault := ⟨mi_X9_meetFault, yt_sel 52 (by decide +kernel) rfl⟩
theorem mt_X9_isAnotherWanted : yMt yX9_isAnotherWanted cX9_isAnotherWanted 3 (some .boolean) 0 := ⟨yt_in 1091 (by decide +kernel) rfl, yt_in 8 (by decide +kernel) rfl, by decide, by decide, by decide +kernel⟩
theorem mi_X9_isAnotherWanted : Cond.instanceMethod yX9_isAnotherWanted ∈ yTs := yt_in 1090 (by decide +kernel) rfl
theorem mv_X9_isAnotherWanted : yMv yX9_isAnotherWanted := ⟨mi_X9_isAnotherWanted, yt_sel 55 (by decide +kernel) rfl⟩
theorem mt_X9_perhapsEnd : yMt yX9_perhapsEnd cX9_perhapsEnd 4 none 0 := ⟨yt_in 1087 (by decide +kernel) rfl, yt_in 8 (by decide +kernel) rfl, by decide, by decide, by decide +kernel⟩
theorem mi_X9_perhapsEnd : Cond.instanceMethod yX9_perhapsEnd ∈ yTs := yt_in 1086 (by decide +kernel) rfl
theorem mv_X9_perhapsEnd : yMv yX9_perhapsEnd := ⟨mi_X9_perhapsEnd, yt_sel 54 (by decide +kernel) rfl⟩
theorem mt_X9_perhapsBegin : yMt yX9_perhapsBegin cX9_perhapsBegin 4 none 0 := ⟨yt_in 1099 (by decide +kernel) rfl, yt_in 8 (by decide +kernel) rfl, by decide, by decide, by decide +kernel⟩
theorem mi_X9_perhapsBegin : Cond.instanceMethod yX9_perhapsBegin ∈ yTs := yt_in 1098 (by decide +kernel) rfl
theorem mv_X9_perhapsBegin : yMv yX9_perhapsBegin := ⟨mi_X9_perhapsBegin, yt_sel 57 (by decide +kernel) rfl⟩
theorem mt_X9_pass : yMt yX9_pass cX9_pass 4 (some .boolean) 0 := ⟨yt_in 1035 (by decide +kernel) rfl, yt_in 8 (by decide +kernel) rfl, by decide, by decide, by decide +kernel⟩
theorem mi_X9_pass : Cond.instanceMethod yX9_pass ∈ yTs := yt_in 1034 (by decide +kernel) rfl
theorem mv_X9_pass : yMv yX9_pass := ⟨mi_X9_pass, yt_sel 41 (by decide +kernel) rfl⟩
theorem mt_X9_second : yMt yX9_second cX9_second 4 (some .int) 1 := ⟨yt_in 1031 (by decide +kernel) rfl, yt_in 8 (by decide +kernel) rfl, by decide, by decide, by decide +kernel⟩
theorem mi_X9_second : Cond.instanceMethod yX9_second ∈ yTs := yt_in 1029 (by decide +kernel) rfl
theorem mv_X9_second : yMv yX9_second := ⟨mi_X9_second, yt_in 1030 (by decide +kernel) rfl⟩
theorem mt_X9_restore : yMt yX9_restore cX9_restore 2 (some .int) 0 := ⟨yt_in 1115 (by decide +kernel) rfl, yt_in 8 (by decide +kernel) rfl, by decide, by decide, by decide +kernel⟩
theorem mi_X9_restore : Cond.instanceMethod yX9_restore ∈ yTs := yt_in 1113 (by decide +kernel) rfl
theorem mv_X9_restore : yMv yX9_restore := ⟨mi_X9_restore, yt_in 1114 (by decide +kernel) rfl⟩
theorem mt_X9_light : yMt yX9_light cX9_light 2 (some .int) 1 := ⟨yt_in 1119 (by decide +kernel) rfl, yt_in 8 (by decide +kernel) rfl, by decide, by decide, by decide +kernel⟩
theorem mi_X9_light : Cond.instanceMethod yX9_light ∈ yTs := yt_in 1117 (by decide +kernel) rfl
theorem mv_X9_light : yMv yX9_light := ⟨mi_X9_light, yt_in 1118 (by decide +kernel) rfl⟩
theorem mt_X9_was : yMt yX9_was cX9_was 3 (some .int) 2 := ⟨yt_in 1123 (by decide +kernel) rfl, yt_in 8 (by decide +kernel) rfl, by decide, by decide, by decide +kernel⟩
theorem mi_X9_was : Cond.instanceMethod yX9_was ∈ yTs := yt_in 1121 (by decide +kernel) rfl
theorem mv_X9_was : yMv yX9_was := ⟨mi_X9_was, yt_in 1122 (by decide +kernel) rfl⟩
theorem mt_X9_stageOf : yMt yX9_stageOf cX9_stageOf 2 (some .int) 1 := ⟨yt_in 1127 (by decide +kernel) rfl, yt_in 8 (by decide +kernel) rfl, by decide, by decide, by decide +kernel⟩
theorem mi_X9_stageOf : Cond.instanceMethod yX9_stageOf ∈ yTs := yt_in 1125 (by decide +kernel) rfl
theorem mv_X9_stageOf : yMv yX9_stageOf := ⟨mi_X9_stageOf, yt_in 1126 (by decide +kernel) rfl⟩
theorem mt_X9_place : yMt yX9_place cX9_place 3 (some .int) 2 := ⟨yt_in 1131 (by decide +kernel) rfl, yt_in 8 (by decide +kernel) rfl, by decide, by decide, by decide +kernel⟩
theorem mi_X9_place : Cond.instanceMethod yX9_place ∈ yTs := yt_in 1129 (by decide +kernel) rfl
theorem mv_X9_place : yMv yX9_place := ⟨mi_X9_place, yt_in 1130 (by decide +kernel) rfl⟩
theorem mt_X9_told : yMt yX9_told cX9_told 3 (some .int) 2 := ⟨yt_in 1135 (by decide +kernel) rfl, yt_in 8 (by decide +kernel) rfl, by decide, by decide, by decide +kernel⟩
theorem mi_X9_told : Cond.instanceMethod yX9_told ∈ yTs := yt_in 1133 (by decide +kernel) rfl
theorem mv_X9_told : yMv yX9_told := ⟨mi_X9_told, yt_in 1134 (by decide +kernel) rfl⟩
theorem mt_X9_length : yMt yX9_length cX9_length 2 (some .int) 1 := ⟨yt_in 1139 (by decide +kernel) rfl, yt_in 8 (by decide +kernel) rfl, by decide, by decide, by decide +kernel⟩
theorem mi_X9_length : Cond.instanceMethod yX9_length ∈ yTs := yt_in 1137 (by decide +kernel) rfl
theorem mv_X9_length : yMv yX9_length := ⟨mi_X9_length, yt_in 1138 (by decide +kernel) rfl⟩
theorem mt_X9_bound : yMt yX9_bound cX9_bound 6 (some .int) 0 := ⟨yt_in 1143 (by decide +kernel) rfl, yt_in 8 (by decide +kernel) rfl, by decide, by decide, by decide +kernel⟩
theorem mi_X9_bound : Cond.instanceMethod yX9_bound ∈ yTs := yt_in 1141 (by decide +kernel) rfl
theorem mv_X9_bound : yMv yX9_bound := ⟨mi_X9_bound, yt_in 1142 (by decide +kernel) rfl⟩
theorem mt_X9_count : yMt yX9_count cX9_count 2 (some .int) 1 := ⟨yt_in 1147 (by decide +kernel) rfl, yt_in 8 (by decide +kernel) rfl, by decide, by decide, by decide +kernel⟩
theorem mi_X9_count : Cond.instanceMethod yX9_count ∈ yTs := yt_in 1145 (by decide +kernel) rfl
theorem mv_X9_count : yMv yX9_count := ⟨mi_X9_count, yt_in 1146 (by decide +kernel) rfl⟩
theorem mt_X9_finding : yMt yX9_finding cX9_finding 2 (some .int) 1 := ⟨yt_in 1151 (by decide +kernel) rfl, yt_in 8 (by decide +kernel) rfl, by decide, by decide, by decide +kernel⟩
theorem mi_X9_finding : Cond.instanceMethod yX9_finding ∈ yTs := yt_in 1149 (by decide +kernel) rfl
theorem mv_X9_finding : yMv yX9_finding := ⟨mi_X9_finding, yt_in 1150 (by decide +kernel) rfl⟩
theorem mt_X9_fault : yMt yX9_fault cX9_fault 2 (some .int) 1 := ⟨yt_in 1155 (by decide +kernel) rfl, yt_in 8 (by decide +kernel) rfl, by decide, by decide, by decide +kernel⟩
theorem mi_X9_fault : Cond.instanceMethod yX9_fault ∈ yTs := yt_in 1153 (by decide +kernel) rfl
theorem mv_X9_fault : yMv yX9_fault := ⟨mi_X9_fault, yt_in 1154 (by decide +kernel) rfl⟩
theorem mt_X9_trace : yMt yX9_trace cX9_trace 1 (some .int) 0 := ⟨yt_in 1159 (by decide +kernel) rfl, yt_in 8 (by decide +kernel) rfl, by decide, by decide, by decide +kernel⟩
theorem mi_X9_trace : Cond.instanceMethod yX9_trace ∈ yTs := yt_in 1157 (by decide +kernel) rfl
theorem mv_X9_trace : yMv yX9_trace := ⟨mi_X9_trace, yt_in 1158 (by decide +kernel) rfl⟩
theorem mt_J9_floorMod_7cf53 : yMt yJ9_floorMod_7cf53 cJ9_floorMod_7cf53 3 (some .int) 2 := ⟨yt_in 664 (by decide +kernel) rfl, yt_in 11 (by decide +kernel) rfl, by decide, by decide, by decide +kernel⟩
theorem ms_J9_floorMod_7cf53 : Cond.static yJ9_floorMod_7cf53 ∈ yTs := yt_in 663 (by decide +kernel) rfl
theorem mt_J9_max_7cf53 : yMt yJ9_max_7cf53 cJ9_max_7cf53 2 (some .int) 2 := ⟨yt_in 275 (by decide +kernel) rfl, yt_in 11 (by decide +kernel) rfl, by decide, by decide, by decide +kernel⟩
theorem ms_J9_max_7cf53 : Cond.static yJ9_max_7cf53 ∈ yTs := yt_in 274 (by decide +kernel) rfl
theorem mt_J9_min_7cf53 : yMt yJ9_min_7cf53 cJ9_min_7cf53 2 (some .int) 2 := ⟨yt_in 306 (by decide +kernel) rfl, yt_in 11 (by decide +kernel) rfl, by decide, by decide, by decide +kernel⟩
theorem ms_J9_min_7cf53 : Cond.static yJ9_min_7cf53 ∈ yTs := yt_in 305 (by decide +kernel) rfl
theorem mt_Jxa1e45_init_da8c8 : yMt yJxa1e45_init_da8c8 cJxa1e45_init_da8c8 1 none 0 := ⟨yt_in 38 (by decide +kernel) rfl, yt_in 2 (by decide +kernel) rfl, by decide, by decide, by decide +kernel⟩
theorem mi_Jxa1e45_init_da8c8 : Cond.instanceMethod yJxa1e45_init_da8c8 ∈ yTs := yt_in 37 (by decide +kernel) rfl
theorem mt_Jxc12de_init_da8c8 : yMt yJxc12de_init_da8c8 cJxc12de_init_da8c8 1 none 0 := ⟨yt_in 35 (by decide +kernel) rfl, yt_in 3 (by decide +kernel) rfl, by decide, by decide, by decide +kernel⟩
theorem mi_Jxc12de_init_da8c8 : Cond.instanceMethod yJxc12de_init_da8c8 ∈ yTs := yt_in 34 (by decide +kernel) rfl
theorem mt_Jx4a65c_init_da8c8 : yMt yJx4a65c_init_da8c8 cJx4a65c_init_da8c8 1 none 0 := ⟨yt_in 32 (by decide +kernel) rfl, yt_in 4 (by decide +kernel) rfl, by decide, by decide, by decide +kernel⟩
theorem mi_Jx4a65c_init_da8c8 : Cond.instanceMethod yJx4a65c_init_da8c8 ∈ yTs := yt_in 31 (by decide +kernel) rfl
theorem mt_Jx4a65c_grow_92f84 : yMt yJx4a65c_grow_92f84 cJx4a65c_grow_92f84 4 (some (.array (.object "java/lang/Object"))) 1 := ⟨yt_in 269 (by decide +kernel) rfl, yt_in 4 (by decide +kernel) rfl, by decide, by decide, by decide +kernel⟩
theorem mi_Jx4a65c_grow_92f84 : Cond.instanceMethod yJx4a65c_grow_92f84 ∈ yTs := yt_in 268 (by decide +kernel) rfl
theorem mv_Jx4a65c_grow_92f84 : yMv yJx4a65c_grow_92f84 := ⟨mi_Jx4a65c_grow_92f84, yt_sel 2 (by decide +kernel) rfl⟩
theorem mt_Jx4a65c_grow_d5877 : yMt yJx4a65c_grow_d5877 cJx4a65c_grow_d5877 1 (some (.array (.object "java/lang/Object"))) 0 := ⟨yt_in 265 (by decide +kernel) rfl, yt_in 4 (by decide +kernel) rfl, by decide, by decide, by decide +kernel⟩
theorem mi_Jx4a65c_grow_d5877 : Cond.instanceMethod yJx4a65c_grow_d5877 ∈ yTs := yt_in 264 (by decide +kernel) rfl
theorem mv_Jx4a65c_grow_d5877 : yMv yJx4a65c_grow_d5877 := ⟨mi_Jx4a65c_grow_d5877, yt_sel 1 (by decide +kernel) rfl⟩
theorem mt_Jx4a65c_size_8abf5 : yMt yJx4a65c_size_8abf5 cJx4a65c_size_8abf5 1 (some .int) 0 := ⟨yt_in 167 (by decide +kernel) rfl, yt_in 4 (by decide +kernel) rfl, by decide, by decide, by decide +kernel⟩
theorem mi_Jx4a65c_size_8abf5 : Cond.instanceMethod yJx4a65c_size_8abf5 ∈ yTs := yt_in 165 (by decide +kernel) rfl
theorem mv_Jx4a65c_size_8abf5 : yMv yJx4a65c_size_8abf5 := ⟨mi_Jx4a65c_size_8abf5, yt_in 166 (by decide +kernel) rfl⟩
theorem mt_Jx4a65c_elementData_915e3 : yMt yJx4a65c_elementData_915e3 cJx4a65c_elementData_915e3 2 (some (.object "java/lang/Object")) 1 := ⟨yt_in 333 (by decide +kernel) rfl, yt_in 4 (by decide +kernel) rfl, by decide, by decide, by decide +kernel⟩
theorem mi_Jx4a65c_elementData_915e3 : Cond.instanceMethod yJx4a65c_elementData_915e3 ∈ yTs := yt_in 331 (by decide +kernel) rfl
theorem mv_Jx4a65c_elementData_915e3 : yMv yJx4a65c_elementData_915e3 := ⟨mi_Jx4a65c_elementData_915e3, yt_in 332 (by decide +kernel) rfl⟩
theorem mt_Jx4a65c_get_915e3 : yMt yJx4a65c_get_915e3 cJx4a65c_get_915e3 2 (some (.object "java/lang/Object")) 1 := ⟨yt_in 323 (by decide +kernel) rfl, yt_in 4 (by decide +kernel) rfl, by decide, by decide, by decide +kernel⟩
theorem mi_Jx4a65c_get_915e3 : Cond.instanceMethod yJx4a65c_get_915e3 ∈ yTs := yt_in 321 (by decide +kernel) rfl
theorem mv_Jx4a65c_get_915e3 : yMv yJx4a65c_get_915e3 := ⟨mi_Jx4a65c_get_915e3, yt_in 322 (by decide +kernel) rfl⟩
theorem mt_Jx4a65c_add_72be8 : yMt yJx4a65c_add_72be8 cJx4a65c_add_72be8 4 none 3 := ⟨yt_in 261 (by decide +kernel) rfl, yt_in 4 (by decide +kernel) rfl, by decide, by decide, by decide +kernel⟩
theorem mi_Jx4a65c_add_72be8 : Cond.instanceMethod yJx4a65c_add_72be8 ∈ yTs := yt_in 260 (by decide +kernel) rfl
theorem mv_Jx4a65c_add_72be8 : yMv yJx4a65c_add_72be8 := ⟨mi_Jx4a65c_add_72be8, yt_sel 0 (by decide +kernel) rfl⟩
theorem mt_Jx4a65c_add_9ea2d : yMt yJx4a65c_add_9ea2d cJx4a65c_add_9ea2d 2 (some .boolean) 1 := ⟨yt_in 257 (by decide +kernel) rfl, yt_in 4 (by decide +kernel) rfl, by decide, by decide, by decide +kernel⟩
theorem mi_Jx4a65c_add_9ea2d : Cond.instanceMethod yJx4a65c_add_9ea2d ∈ yTs := yt_in 255 (by decide +kernel) rfl
theorem mv_Jx4a65c_add_9ea2d : yMv yJx4a65c_add_9ea2d := ⟨mi_Jx4a65c_add_9ea2d, yt_in 256 (by decide +kernel) rfl⟩
theorem mt_Jx4a65c_remove_915e3 : yMt yJx4a65c_remove_915e3 cJx4a65c_remove_915e3 4 (some (.object "java/lang/Object")) 1 := ⟨yt_in 519 (by decide +kernel) rfl, yt_in 4 (by decide +kernel) rfl, by decide, by decide, by decide +kernel⟩
theorem mi_Jx4a65c_remove_915e3 : Cond.instanceMethod yJx4a65c_remove_915e3 ∈ yTs := yt_in 517 (by decide +kernel) rfl
theorem mv_Jx4a65c_remove_915e3 : yMv yJx4a65c_remove_915e3 := ⟨mi_Jx4a65c_remove_915e3, yt_in 518 (by decide +kernel) rfl⟩
theorem mt_Jx4a65c_fastRemove_b59b0 : yMt yJx4a65c_fastRemove_b59b0 cJx4a65c_fastRemove_b59b0 4 none 2 := ⟨yt_in 523 (by decide +kernel) rfl, yt_in 4 (by decide +kernel) rfl, by decide, by decide, by decide +kernel⟩
theorem mi_Jx4a65c_fastRemove_b59b0 : Cond.instanceMethod yJx4a65c_fastRemove_b59b0 ∈ yTs := yt_in 522 (by decide +kernel) rfl
theorem mv_Jx4a65c_fastRemove_b59b0 : yMv yJx4a65c_fastRemove_b59b0 := ⟨mi_Jx4a65c_fastRemove_b59b0, yt_sel 7 (by decide +kernel) rfl⟩
theorem mt_J7_copyOf_1904c : yMt yJ7_copyOf_1904c cJ7_copyOf_1904c 2 (some (.array (.object "java/lang/Object"))) 2 := ⟨yt_in 282 (by decide +kernel) rfl, yt_in 12 (by decide +kernel) rfl, by decide, by decide, by decide +kernel⟩
theorem ms_J7_copyOf_1904c : Cond.static yJ7_copyOf_1904c ∈ yTs := yt_in 281 (by decide +kernel) rfl
theorem mt_J7_copyOf_6403c : yMt yJ7_copyOf_6403c cJ7_copyOf_6403c 4 (some (.array (.object "java/lang/Object"))) 3 := ⟨yt_in 300 (by decide +kernel) rfl, yt_in 12 (by decide +kernel) rfl, by decide, by decide, by decide +kernel⟩
theorem ms_J7_copyOf_6403c : Cond.static yJ7_copyOf_6403c ∈ yTs := yt_in 299 (by decide +kernel) rfl
theorem mt_J15_checkIndex_7cf53 : yMt yJ15_checkIndex_7cf53 cJ15_checkIndex_7cf53 2 (some .int) 2 := ⟨yt_in 326 (by decide +kernel) rfl, yt_in 14 (by decide +kernel) rfl, by decide, by decide, by decide +kernel⟩
theorem ms_J15_checkIndex_7cf53 : Cond.static yJ15_checkIndex_7cf53 ∈ yTs := yt_in 325 (by decide +kernel) rfl
theorem mt_J8_newLength_cabcc : yMt yJ8_newLength_cabcc cJ8_newLength_cabcc 4 (some .int) 3 := ⟨yt_in 272 (by decide +kernel) rfl, yt_in 10 (by decide +kernel) rfl, by decide, by decide, by decide +kernel⟩
theorem ms_J8_newLength_cabcc : Cond.static yJ8_newLength_cabcc ∈ yTs := yt_in 271 (by decide +kernel) rfl
theorem mt_J8_hugeLength_7cf53 : yMt yJ8_hugeLength_7cf53 cJ8_hugeLength_7cf53 3 (some .int) 2 := ⟨yt_in 279 (by decide +kernel) rfl, yt_in 10 (by decide +kernel) rfl, by decide, by decide, by decide +kernel⟩
theorem ms_J8_hugeLength_7cf53 : Cond.static yJ8_hugeLength_7cf53 ∈ yTs := yt_in 278 (by decide +kernel) rfl
theorem mt_J3_checkIndex_8e157 : yMt yJ3_checkIndex_8e157 cJ3_checkIndex_8e157 3 (some .int) 3 := ⟨yt_in 329 (by decide +kernel) rfl, yt_in 15 (by decide +kernel) rfl, by decide, by decide, by decide +kernel⟩
theorem ms_J3_checkIndex_8e157 : Cond.static yJ3_checkIndex_8e157 ∈ yTs := yt_in 328 (by decide +kernel) rfl
theorem ml_X8_1 : Cond.methodLink RX8 1 objectInit ∈ yTs := yt_in 25 (by decide +kernel) rfl
theorem ml_X8_9 : Cond.methodLink RX8 9 yJx4a65c_init_da8c8 ∈ yTs := yt_in 30 (by decide +kernel) rfl
theorem ml_X8_75 : Cond.methodLink RX8 75 yJx4a65c_size_8abf5 ∈ yTs := yt_in 164 (by decide +kernel) rfl
theorem ml_X8_81 : Cond.methodLink RX8 81 yX6_init ∈ yTs := yt_in 170 (by decide +kernel) rfl
theorem ml_X8_84 : Cond.methodLink RX8 84 yJx4a65c_add_9ea2d ∈ yTs := yt_in 254 (by decide +kernel) rfl
theorem ml_X8_91 : Cond.methodLink RX8 91 yX8_phaseAt ∈ yTs := yt_in 316 (by decide +kernel) rfl
theorem ml_X8_95 : Cond.methodLink RX8 95 yX8_isWithin ∈ yTs := yt_in 334 (by decide +kernel) rfl
theorem ml_X8_99 : Cond.methodLink RX8 99 yJx4a65c_get_915e3 ∈ yTs := yt_in 320 (by decide +kernel) rfl
theorem ml_X8_105 : Cond.methodLink RX8 105 yX7_hasPhase ∈ yTs := yt_in 338 (by decide +kernel) rfl
theorem ml_X8_109 : Cond.methodLink RX8 109 yX6_setClearing ∈ yTs := yt_in 342 (by decide +kernel) rfl
theorem ml_X8_113 : Cond.methodLink RX8 113 yX7_init ∈ yTs := yt_in 351 (by decide +kernel) rfl
theorem ml_X8_116 : Cond.methodLink RX8 116 yX7_putPhase ∈ yTs := yt_in 366 (by decide +kernel) rfl
theorem ml_X8_120 : Cond.methodLink RX8 120 yX7_isEmpty ∈ yTs := yt_in 370 (by decide +kernel) rfl
theorem ml_X8_124 : Cond.methodLink RX8 124 yX7_hasConflict ∈ yTs := yt_in 374 (by decide +kernel) rfl
theorem ml_X8_130 : Cond.methodLink RX8 130 yX1_init ∈ yTs := yt_in 388 (by decide +kernel) rfl
theorem ml_X8_136 : Cond.methodLink RX8 136 yX8_detectorAt ∈ yTs := yt_in 413 (by decide +kernel) rfl
theorem ml_X8_140 : Cond.methodLink RX8 140 yX1_isCutOff ∈ yTs := yt_in 417 (by decide +kernel) rfl
theorem ml_X8_143 : Cond.methodLink RX8 143 yX1_cutOff ∈ yTs := yt_in 421 (by decide +kernel) rfl
theorem ml_X8_146 : Cond.methodLink RX8 146 yX1_addPlace ∈ yTs := yt_in 429 (by decide +kernel) rfl
theorem ml_X8_154 : Cond.methodLink RX8 154 yX4_init ∈ yTs := yt_in 440 (by decide +kernel) rfl
theorem ml_X8_163 : Cond.methodLink RX8 163 yX5_init ∈ yTs := yt_in 471 (by decide +kernel) rfl
theorem ml_X8_166 : Cond.methodLink RX8 166 yX6_isAsked ∈ yTs := yt_in 492 (by decide +kernel) rfl
theorem ml_X8_175 : Cond.methodLink RX8 175 yX8_stageAt ∈ yTs := yt_in 500 (by decide +kernel) rfl
theorem ml_X8_185 : Cond.methodLink RX8 185 yX8_doOrders ∈ yTs := yt_in 508 (by decide +kernel) rfl
theorem ml_X8_188 : Cond.methodLink RX8 188 yX8_runLights ∈ yTs := yt_in 525 (by decide +kernel) rfl
theorem ml_X8_191 : Cond.methodLink RX8 191 yX8_flashIfDue ∈ yTs := yt_in 701 (by decide +kernel) rfl
theorem ml_X8_194 : Cond.methodLink RX8 194 yX8_keepLights ∈ yTs := yt_in 709 (by decide +kernel) rfl
theorem ml_X8_200 : Cond.methodLink RX8 200 yX8_changeAllLights ∈ yTs := yt_in 705 (by decide +kernel) rfl
theorem ml_X8_203 : Cond.methodLink RX8 203 yX6_lightBehind ∈ yTs := yt_in 734 (by decide +kernel) rfl
theorem ml_X8_207 : Cond.methodLink RX8 207 yX8_numberOf ∈ yTs := yt_in 742 (by decide +kernel) rfl
theorem ml_X8_211 : Cond.methodLink RX8 211 yX8_nextStage ∈ yTs := yt_in 658 (by decide +kernel) rfl
theorem ml_X8_215 : Cond.methodLink RX8 215 yX7_phaseIn ∈ yTs := yt_in 749 (by decide +kernel) rfl
theorem ml_X8_218 : Cond.methodLink RX8 218 yX3_add ∈ yTs := yt_in 561 (by decide +kernel) rfl
theorem ml_X8_250 : Cond.methodLink RX8 250 yX7_greatestGreen ∈ yTs := yt_in 695 (by decide +kernel) rfl
theorem ml_X8_253 : Cond.methodLink RX8 253 yJ9_max_7cf53 ∈ yTs := yt_in 649 (by decide +kernel) rfl
theorem ml_X8_259 : Cond.methodLink RX8 259 yX6_greatestClearing ∈ yTs := yt_in 765 (by decide +kernel) rfl
theorem ml_X8_262 : Cond.methodLink RX8 262 yX3_howMany ∈ yTs := yt_in 774 (by decide +kernel) rfl
theorem ml_X8_281 : Cond.methodLink RX8 281 yX4_changeTable ∈ yTs := yt_in 512 (by decide +kernel) rfl
theorem ml_X8_284 : Cond.methodLink RX8 284 yJx4a65c_remove_915e3 ∈ yTs := yt_in 516 (by decide +kernel) rfl
theorem ml_X8_287 : Cond.methodLink RX8 287 yX8_readPhases ∈ yTs := yt_in 529 (by decide +kernel) rfl
theorem ml_X8_290 : Cond.methodLink RX8 290 yX8_lookAtPairs ∈ yTs := yt_in 602 (by decide +kernel) rfl
theorem ml_X8_293 : Cond.methodLink RX8 293 yX8_faultToMeet ∈ yTs := yt_in 616 (by decide +kernel) rfl
theorem ml_X8_296 : Cond.methodLink RX8 296 yX8_meetFault ∈ yTs := yt_in 628 (by decide +kernel) rfl
theorem ml_X8_299 : Cond.methodLink RX8 299 yX8_endsIn ∈ yTs := yt_in 654 (by decide +kernel) rfl
theorem ml_X8_303 : Cond.methodLink RX8 303 yX8_endStage ∈ yTs := yt_in 674 (by decide +kernel) rfl
theorem ml_X8_307 : Cond.methodLink RX8 307 yX8_endAmbers ∈ yTs := yt_in 678 (by decide +kernel) rfl
theorem ml_X8_310 : Cond.methodLink RX8 310 yX7_mayBeGreen ∈ yTs := yt_in 682 (by decide +kernel) rfl
theorem ml_X8_314 : Cond.methodLink RX8 314 yX8_beginStage ∈ yTs := yt_in 686 (by decide +kernel) rfl
theorem ml_X8_317 : Cond.methodLink RX8 317 yX6_keepLight ∈ yTs := yt_in 713 (by decide +kernel) rfl
theorem ml_X8_320 : Cond.methodLink RX8 320 yX8_holdsIn ∈ yTs := yt_in 533 (by decide +kernel) rfl
theorem ml_X8_327 : Cond.methodLink RX8 327 yX8_asksIn ∈ yTs := yt_in 574 (by decide +kernel) rfl
theorem ml_X8_330 : Cond.methodLink RX8 330 yX0_holdsOf ∈ yTs := yt_in 537 (by decide +kernel) rfl
theorem ml_X8_333 : Cond.methodLink RX8 333 yX8_rowsUntil ∈ yTs := yt_in 557 (by decide +kernel) rfl
theorem ml_X8_337 : Cond.methodLink RX8 337 yX1_passingsAt ∈ yTs := yt_in 569 (by decide +kernel) rfl
theorem ml_X8_340 : Cond.methodLink RX8 340 yX1_occupiedAt ∈ yTs := yt_in 578 (by decide +kernel) rfl
theorem ml_X8_343 : Cond.methodLink RX8 343 yX0_asksOf ∈ yTs := yt_in 582 (by decide +kernel) rfl
theorem ml_X8_346 : Cond.methodLink RX8 346 yX1_reaches ∈ yTs := yt_in 565 (by decide +kernel) rfl
theorem ml_X8_349 : Cond.methodLink RX8 349 yX7_isHeld ∈ yTs := yt_in 670 (by decide +kernel) rfl
theorem ml_X8_356 : Cond.methodLink RX8 356 yX8_changeLight ∈ yTs := yt_in 636 (by decide +kernel) rfl
theorem ml_X8_360 : Cond.methodLink RX8 360 yX8_setEnd ∈ yTs := yt_in 644 (by decide +kernel) rfl
theorem ml_X8_363 : Cond.methodLink RX8 363 yX6_clearingTo ∈ yTs := yt_in 648 (by decide +kernel) rfl
theorem ml_X8_367 : Cond.methodLink RX8 367 yX7_leastGreen ∈ yTs := yt_in 690 (by decide +kernel) rfl
theorem ml_X8_370 : Cond.methodLink RX8 370 yJ9_floorMod_7cf53 ∈ yTs := yt_in 662 (by decide +kernel) rfl
theorem ml_X8_373 : Cond.methodLink RX8 373 yX7_firstAsked ∈ yTs := yt_in 665 (by decide +kernel) rfl
theorem ml_X8_376 : Cond.methodLink RX8 376 yX8_gapOf ∈ yTs := yt_in 640 (by decide +kernel) rfl
theorem ml_X8_380 : Cond.methodLink RX8 380 yX5_lookAt ∈ yTs := yt_in 606 (by decide +kernel) rfl
theorem ml_X8_383 : Cond.methodLink RX8 383 yX6_isLit ∈ yTs := yt_in 620 (by decide +kernel) rfl
theorem ml_X8_386 : Cond.methodLink RX8 386 yX5_isBroken ∈ yTs := yt_in 624 (by decide +kernel) rfl
theorem ml_X8_389 : Cond.methodLink RX8 389 yX2_meet ∈ yTs := yt_in 632 (by decide +kernel) rfl
theorem ml_X8_392 : Cond.methodLink RX8 392 yX5_beginAnew ∈ yTs := yt_in 650 (by decide +kernel) rfl
theorem ml_X0_3 : Cond.methodLink RX0 3 objectInit ∈ yTs := yt_in 105 (by decide +kernel) rfl
theorem ml_X0_15 : Cond.methodLink RX0 15 yX0_asksAsCar ∈ yTs := yt_in 586 (by decide +kernel) rfl
theorem ml_X0_19 : Cond.methodLink RX0 19 yX0_asksAsTurn ∈ yTs := yt_in 590 (by decide +kernel) rfl
theorem ml_X0_22 : Cond.methodLink RX0 22 yX0_asksAsWalk ∈ yTs := yt_in 594 (by decide +kernel) rfl
theorem ml_X0_26 : Cond.methodLink RX0 26 yX0_asksAsTram ∈ yTs := yt_in 598 (by decide +kernel) rfl
theorem ml_X0_29 : Cond.methodLink RX0 29 yX0_holdsAsCar ∈ yTs := yt_in 541 (by decide +kernel) rfl
theorem ml_X0_32 : Cond.methodLink RX0 32 yX0_holdsAsWalk ∈ yTs := yt_in 545 (by decide +kernel) rfl
theorem ml_X0_36 : Cond.methodLink RX0 36 yX0_holdsAsTram ∈ yTs := yt_in 549 (by decide +kernel) rfl
theorem ml_X0_39 : Cond.methodLink RX0 39 yX0_holdsAsRest ∈ yTs := yt_in 553 (by decide +kernel) rfl
theorem ml_X1_3 : Cond.methodLink RX1 3 objectInit ∈ yTs := yt_in 391 (by decide +kernel) rfl
theorem ml_X1_26 : Cond.methodLink RX1 26 yX1_isCutOff ∈ yTs := yt_in 433 (by decide +kernel) rfl
theorem ml_X1_30 : Cond.methodLink RX1 30 yX1_reaches ∈ yTs := yt_in 573 (by decide +kernel) rfl
theorem ml_X2_3 : Cond.methodLink RX2 3 objectInit ∈ yTs := yt_in 78 (by decide +kernel) rfl
theorem ml_X3_3 : Cond.methodLink RX3 3 objectInit ∈ yTs := yt_in 59 (by decide +kernel) rfl
theorem ml_X4_1 : Cond.methodLink RX4 1 objectInit ∈ yTs := yt_in 443 (by decide +kernel) rfl
theorem ml_X5_1 : Cond.methodLink RX5 1 objectInit ∈ yTs := yt_in 474 (by decide +kernel) rfl
theorem ml_X5_23 : Cond.methodLink RX5 23 yX5_differIn ∈ yTs := yt_in 610 (by decide +kernel) rfl
theorem ml_X5_27 : Cond.methodLink RX5 27 yX1_reaches ∈ yTs := yt_in 614 (by decide +kernel) rfl
theorem ml_X5_32 : Cond.methodLink RX5 32 yX1_passingsAt ∈ yTs := yt_in 615 (by decide +kernel) rfl
theorem ml_X6_3 : Cond.methodLink RX6 3 objectInit ∈ yTs := yt_in 173 (by decide +kernel) rfl
theorem ml_X6_69 : Cond.methodLink RX6 69 yJ9_max_7cf53 ∈ yTs := yt_in 769 (by decide +kernel) rfl
theorem ml_X6_75 : Cond.methodLink RX6 75 yJ9_floorMod_7cf53 ∈ yTs := yt_in 717 (by decide +kernel) rfl
theorem ml_X7_3 : Cond.methodLink RX7 3 objectInit ∈ yTs := yt_in 354 (by decide +kernel) rfl
theorem ml_X7_21 : Cond.methodLink RX7 21 yX6_clearingTo ∈ yTs := yt_in 378 (by decide +kernel) rfl
theorem ml_X7_28 : Cond.methodLink RX7 28 yJ9_max_7cf53 ∈ yTs := yt_in 694 (by decide +kernel) rfl
theorem ml_X7_37 : Cond.methodLink RX7 37 yJ9_min_7cf53 ∈ yTs := yt_in 699 (by decide +kernel) rfl
theorem ml_X7_40 : Cond.methodLink RX7 40 yX7_leastGreen ∈ yTs := yt_in 700 (by decide +kernel) rfl
theorem ml_X7_48 : Cond.methodLink RX7 48 yX6_isAsked ∈ yTs := yt_in 669 (by decide +kernel) rfl
theorem ml_L_9 : Cond.methodLink RL 9 yX8_init ∈ yTs := yt_in 22 (by decide +kernel) rfl
theorem ml_L_12 : Cond.methodLink RL 12 yX9_init ∈ yTs := yt_in 792 (by decide +kernel) rfl
theorem ml_L_13 : Cond.methodLink RL 13 yX8_phase ∈ yTs := yt_in 160 (by decide +kernel) rfl
theorem ml_L_17 : Cond.methodLink RL 17 yX9_phase ∈ yTs := yt_in 957 (by decide +kernel) rfl
theorem ml_L_18 : Cond.methodLink RL 18 yX8_conflict ∈ yTs := yt_in 312 (by decide +kernel) rfl
theorem ml_L_22 : Cond.methodLink RL 22 yX9_conflict ∈ yTs := yt_in 964 (by decide +kernel) rfl
theorem ml_L_23 : Cond.methodLink RL 23 yX8_stage ∈ yTs := yt_in 346 (by decide +kernel) rfl
theorem ml_L_26 : Cond.methodLink RL 26 yX9_stage ∈ yTs := yt_in 976 (by decide +kernel) rfl
theorem ml_L_27 : Cond.methodLink RL 27 yX8_detector ∈ yTs := yt_in 382 (by decide +kernel) rfl
theorem ml_L_30 : Cond.methodLink RL 30 yX9_detector ∈ yTs := yt_in 984 (by decide +kernel) rfl
theorem ml_L_31 : Cond.methodLink RL 31 yX8_cut ∈ yTs := yt_in 409 (by decide +kernel) rfl
theorem ml_L_34 : Cond.methodLink RL 34 yX9_cut ∈ yTs := yt_in 988 (by decide +kernel) rfl
theorem ml_L_35 : Cond.methodLink RL 35 yX8_passing ∈ yTs := yt_in 425 (by decide +kernel) rfl
theorem ml_L_39 : Cond.methodLink RL 39 yX9_passing ∈ yTs := yt_in 996 (by decide +kernel) rfl
theorem ml_L_40 : Cond.methodLink RL 40 yX8_table ∈ yTs := yt_in 434 (by decide +kernel) rfl
theorem ml_L_44 : Cond.methodLink RL 44 yX9_table ∈ yTs := yt_in 1000 (by decide +kernel) rfl
theorem ml_L_45 : Cond.methodLink RL 45 yX8_lamp ∈ yTs := yt_in 461 (by decide +kernel) rfl
theorem ml_L_49 : Cond.methodLink RL 49 yX9_lamp ∈ yTs := yt_in 1004 (by decide +kernel) rfl
theorem ml_L_50 : Cond.methodLink RL 50 yX8_pair ∈ yTs := yt_in 465 (by decide +kernel) rfl
theorem ml_L_53 : Cond.methodLink RL 53 yX9_pair ∈ yTs := yt_in 1008 (by decide +kernel) rfl
theorem ml_L_54 : Cond.methodLink RL 54 yX8_ask ∈ yTs := yt_in 488 (by decide +kernel) rfl
theorem ml_L_57 : Cond.methodLink RL 57 yX9_ask ∈ yTs := yt_in 1012 (by decide +kernel) rfl
theorem ml_L_58 : Cond.methodLink RL 58 yX8_hurry ∈ yTs := yt_in 496 (by decide +kernel) rfl
theorem ml_L_61 : Cond.methodLink RL 61 yX9_hurry ∈ yTs := yt_in 1016 (by decide +kernel) rfl
theorem ml_L_62 : Cond.methodLink RL 62 yX8_second ∈ yTs := yt_in 504 (by decide +kernel) rfl
theorem ml_L_65 : Cond.methodLink RL 65 yX9_second ∈ yTs := yt_in 1028 (by decide +kernel) rfl
theorem ml_L_66 : Cond.methodLink RL 66 yX8_alarm ∈ yTs := yt_in 718 (by decide +kernel) rfl
theorem ml_L_70 : Cond.methodLink RL 70 yX9_alarm ∈ yTs := yt_in 1024 (by decide +kernel) rfl
theorem ml_L_71 : Cond.methodLink RL 71 yX8_restore ∈ yTs := yt_in 722 (by decide +kernel) rfl
theorem ml_L_74 : Cond.methodLink RL 74 yX9_restore ∈ yTs := yt_in 1112 (by decide +kernel) rfl
theorem ml_L_75 : Cond.methodLink RL 75 yX8_light ∈ yTs := yt_in 726 (by decide +kernel) rfl
theorem ml_L_78 : Cond.methodLink RL 78 yX9_light ∈ yTs := yt_in 1116 (by decide +kernel) rfl
theorem ml_L_79 : Cond.methodLink RL 79 yX8_was ∈ yTs := yt_in 730 (by decide +kernel) rfl
theorem ml_L_83 : Cond.methodLink RL 83 yX9_was ∈ yTs := yt_in 1120 (by decide +kernel) rfl
theorem ml_L_84 : Cond.methodLink RL 84 yX8_stageOf ∈ yTs := yt_in 738 (by decide +kernel) rfl
theorem ml_L_87 : Cond.methodLink RL 87 yX9_stageOf ∈ yTs := yt_in 1124 (by decide +kernel) rfl
theorem ml_L_88 : Cond.methodLink RL 88 yX8_place ∈ yTs := yt_in 745 (by decide +kernel) rfl
theorem ml_L_91 : Cond.methodLink RL 91 yX9_place ∈ yTs := yt_in 1128 (by decide +kernel) rfl
theorem ml_L_92 : Cond.methodLink RL 92 yX8_told ∈ yTs := yt_in 753 (by decide +kernel) rfl
theorem ml_L_95 : Cond.methodLink RL 95 yX9_told ∈ yTs := yt_in 1132 (by decide +kernel) rfl
theorem ml_L_96 : Cond.methodLink RL 96 yX8_length ∈ yTs := yt_in 757 (by decide +kernel) rfl
theorem ml_L_99 : Cond.methodLink RL 99 yX9_length ∈ yTs := yt_in 1136 (by decide +kernel) rfl
theorem ml_L_100 : Cond.methodLink RL 100 yX8_bound ∈ yTs := yt_in 761 (by decide +kernel) rfl
theorem ml_L_103 : Cond.methodLink RL 103 yX9_bound ∈ yTs := yt_in 1140 (by decide +kernel) rfl
theorem ml_L_104 : Cond.methodLink RL 104 yX8_count ∈ yTs := yt_in 770 (by decide +kernel) rfl
theorem ml_L_107 : Cond.methodLink RL 107 yX9_count ∈ yTs := yt_in 1144 (by decide +kernel) rfl
theorem ml_L_108 : Cond.methodLink RL 108 yX8_finding ∈ yTs := yt_in 778 (by decide +kernel) rfl
theorem ml_L_111 : Cond.methodLink RL 111 yX9_finding ∈ yTs := yt_in 1148 (by decide +kernel) rfl
theorem ml_L_112 : Cond.methodLink RL 112 yX8_fault ∈ yTs := yt_in 782 (by decide +kernel) rfl
theorem ml_L_115 : Cond.methodLink RL 115 yX9_fault ∈ yTs := yt_in 1152 (by decide +kernel) rfl
theorem ml_L_116 : Cond.methodLink RL 116 yX8_trace ∈ yTs := yt_in 786 (by decide +kernel) rfl
theorem ml_L_119 : Cond.methodLink RL 119 yX9_trace ∈ yTs := yt_in 1156 (by decide +kernel) rfl
theorem ml_X9_1 : Cond.methodLink RX9 1 objectInit ∈ yTs := yt_in 795 (by decide +kernel) rfl
theorem ml_X9_123 : Cond.methodLink RX9 123 yX9_in ∈ yTs := yt_in 961 (by decide +kernel) rfl
theorem ml_X9_136 : Cond.methodLink RX9 136 yX9_isPhase ∈ yTs := yt_in 968 (by decide +kernel) rfl
theorem ml_X9_140 : Cond.methodLink RX9 140 yX9_has ∈ yTs := yt_in 972 (by decide +kernel) rfl
theorem ml_X9_144 : Cond.methodLink RX9 144 yX9_meets ∈ yTs := yt_in 980 (by decide +kernel) rfl
theorem ml_X9_147 : Cond.methodLink RX9 147 yX9_isDetector ∈ yTs := yt_in 992 (by decide +kernel) rfl
theorem ml_X9_156 : Cond.methodLink RX9 156 yX9_isStage ∈ yTs := yt_in 1020 (by decide +kernel) rfl
theorem ml_X9_169 : Cond.methodLink RX9 169 yX9_found ∈ yTs := yt_in 1048 (by decide +kernel) rfl
theorem ml_X9_176 : Cond.methodLink RX9 176 yX9_readAt ∈ yTs := yt_in 1060 (by decide +kernel) rfl
theorem ml_X9_180 : Cond.methodLink RX9 180 yX9_asksOfCar ∈ yTs := yt_in 1068 (by decide +kernel) rfl
theorem ml_X9_183 : Cond.methodLink RX9 183 yX9_gapOf ∈ yTs := yt_in 1044 (by decide +kernel) rfl
theorem ml_X9_192 : Cond.methodLink RX9 192 yX9_leastOf ∈ yTs := yt_in 1104 (by decide +kernel) rfl
theorem ml_X9_195 : Cond.methodLink RX9 195 yX9_askedFirst ∈ yTs := yt_in 1092 (by decide +kernel) rfl
theorem ml_X9_198 : Cond.methodLink RX9 198 yX9_doesHold ∈ yTs := yt_in 1056 (by decide +kernel) rfl
theorem ml_X9_201 : Cond.methodLink RX9 201 yX9_doesAsk ∈ yTs := yt_in 1064 (by decide +kernel) rfl
theorem ml_X9_213 : Cond.methodLink RX9 213 yX9_change ∈ yTs := yt_in 1040 (by decide +kernel) rfl
theorem ml_X9_216 : Cond.methodLink RX9 216 yX9_endsIn ∈ yTs := yt_in 1080 (by decide +kernel) rfl
theorem ml_X9_219 : Cond.methodLink RX9 219 yX9_isAnotherWanted ∈ yTs := yt_in 1088 (by decide +kernel) rfl
theorem ml_X9_229 : Cond.methodLink RX9 229 yX9_next ∈ yTs := yt_in 1100 (by decide +kernel) rfl
theorem ml_X9_233 : Cond.methodLink RX9 233 yX9_greatestOf ∈ yTs := yt_in 1108 (by decide +kernel) rfl
theorem ml_X9_236 : Cond.methodLink RX9 236 yX9_doOrders ∈ yTs := yt_in 1036 (by decide +kernel) rfl
theorem ml_X9_239 : Cond.methodLink RX9 239 yX9_readAll ∈ yTs := yt_in 1052 (by decide +kernel) rfl
theorem ml_X9_242 : Cond.methodLink RX9 242 yX9_faultNow ∈ yTs := yt_in 1072 (by decide +kernel) rfl
theorem ml_X9_245 : Cond.methodLink RX9 245 yX9_meetFault ∈ yTs := yt_in 1076 (by decide +kernel) rfl
theorem ml_X9_249 : Cond.methodLink RX9 249 yX9_perhapsEnd ∈ yTs := yt_in 1084 (by decide +kernel) rfl
theorem ml_X9_252 : Cond.methodLink RX9 252 yX9_perhapsBegin ∈ yTs := yt_in 1096 (by decide +kernel) rfl
theorem ml_X9_255 : Cond.methodLink RX9 255 yX9_pass ∈ yTs := yt_in 1032 (by decide +kernel) rfl
theorem ml_Jxa1e45_1 : Cond.methodLink RJxa1e45 1 objectInit ∈ yTs := yt_in 39 (by decide +kernel) rfl
theorem ml_Jxc12de_1 : Cond.methodLink RJxc12de 1 yJxa1e45_init_da8c8 ∈ yTs := yt_in 36 (by decide +kernel) rfl
theorem ml_Jx4a65c_1 : Cond.methodLink RJx4a65c 1 yJxc12de_init_da8c8 ∈ yTs := yt_in 33 (by decide +kernel) rfl
theorem ml_Jx4a65c_66 : Cond.methodLink RJx4a65c 66 yJ7_copyOf_1904c ∈ yTs := yt_in 280 (by decide +kernel) rfl
theorem ml_Jx4a65c_69 : Cond.methodLink RJx4a65c 69 yJx4a65c_grow_92f84 ∈ yTs := yt_in 266 (by decide +kernel) rfl
theorem ml_Jx4a65c_73 : Cond.methodLink RJx4a65c 73 yJ8_newLength_cabcc ∈ yTs := yt_in 270 (by decide +kernel) rfl
theorem ml_Jx4a65c_79 : Cond.methodLink RJx4a65c 79 yJ9_max_7cf53 ∈ yTs := yt_in 310 (by decide +kernel) rfl
theorem ml_Jx4a65c_118 : Cond.methodLink RJx4a65c 118 yJ15_checkIndex_7cf53 ∈ yTs := yt_in 324 (by decide +kernel) rfl
theorem ml_Jx4a65c_123 : Cond.methodLink RJx4a65c 123 yJx4a65c_elementData_915e3 ∈ yTs := yt_in 330 (by decide +kernel) rfl
theorem ml_Jx4a65c_129 : Cond.methodLink RJx4a65c 129 yJx4a65c_grow_d5877 ∈ yTs := yt_in 262 (by decide +kernel) rfl
theorem ml_Jx4a65c_131 : Cond.methodLink RJx4a65c 131 yJx4a65c_add_72be8 ∈ yTs := yt_in 258 (by decide +kernel) rfl
theorem ml_Jx4a65c_144 : Cond.methodLink RJx4a65c 144 yJx4a65c_fastRemove_b59b0 ∈ yTs := yt_in 520 (by decide +kernel) rfl
theorem ml_J7_300 : Cond.methodLink RJ7 300 yJ7_copyOf_6403c ∈ yTs := yt_in 298 (by decide +kernel) rfl
theorem ml_J7_304 : Cond.methodLink RJ7 304 yJ9_min_7cf53 ∈ yTs := yt_in 304 (by decide +kernel) rfl
theorem ml_J15_105 : Cond.methodLink RJ15 105 yJ3_checkIndex_8e157 ∈ yTs := yt_in 327 (by decide +kernel) rfl
theorem ml_J8_194 : Cond.methodLink RJ8 194 yJ9_max_7cf53 ∈ yTs := yt_in 273 (by decide +kernel) rfl
theorem ml_J8_201 : Cond.methodLink RJ8 201 yJ8_hugeLength_7cf53 ∈ yTs := yt_in 277 (by decide +kernel) rfl
theorem oi_i : Cond.instanceMethod objectInit ∈ yTs := yt_in 26 (by decide +kernel) rfl
theorem oi_c : Cond.code objectInit ⟨#[0xb1]⟩ 1 none ∈ yTs := yt_in 27 (by decide +kernel) rfl
theorem ac_int : Cond.arrayClass .int ∈ yTs := yt_in 72 (by decide +kernel) rfl
theorem ac_byte : Cond.arrayClass .byte ∈ yTs := yt_in 407 (by decide +kernel) rfl
theorem ac_short : Cond.arrayClass .short ∈ yTs := yt_in 408 (by decide +kernel) rfl
theorem ac_boolean : Cond.arrayClass .boolean ∈ yTs := yt_in 956 (by decide +kernel) rfl

set_option maxRecDepth 100000 in
theorem obW : Cond.instanceMethod objectInit ∈ wsT ∧ Cond.code objectInit ⟨#[0xb1]⟩ 1 none ∈ wsT := ⟨mT 74 (by decide +kernel) rfl, mT 75 rfl rfl⟩
theorem acI : Cond.arrayClass .int ∈ wsT := mT 94 (by decide +kernel) rfl
theorem acB : Cond.arrayClass .byte ∈ wsT := mT 93 (by decide +kernel) rfl
abbrev nX0 : MM := (yX0_init, cX0_init, 1, none)
set_option maxRecDepth 100000 in
theorem cbX0 : CB nX0 := ⟨mT 261 rfl rfl, mT 62 (by decide +kernel) rfl, mT 260 (by decide +kernel) rfl, rfl, by decide +kernel, by decide +kernel, by decide +kernel⟩
set_option maxRecDepth 100000 in
theorem cn9_61 : CN RX9 61 0 3 [.int 0, .null, .null] := ⟨RX0, TX0, tyX0, rfl, mT 257 (by decide +kernel) rfl, mT 258 (by decide +kernel) rfl, mT 62 (by decide +kernel) rfl, clX0, tyX0_ok, by decide +kernel⟩
abbrev nX1 : MM := (yX1_init, cX1_init, 1, none)
set_option maxRecDepth 100000 in
theorem cbX1 : CB nX1 := ⟨mT 169 rfl rfl, mT 58 (by decide +kernel) rfl, mT 168 (by decide +kernel) rfl, rfl, by decide +kernel, by decide +kernel, by decide +kernel⟩
set_option maxRecDepth 100000 in
theorem cn9_33 : CN RX9 33 1 5 [.int 0, .int 0, .int 0, .null, .null] := ⟨RX1, TX1, tyX1, rfl, mT 165 (by decide +kernel) rfl, mT 166 (by decide +kernel) rfl, mT 58 (by decide +kernel) rfl, clX1, tyX1_ok, by decide +kernel⟩
theorem cr1_9 : Cond.classLink RX1 9 "[[I" ∈ wsT := mT 171 (by decide +kernel) rfl
abbrev nX2 : MM := (yX2_init, cX2_init, 1, none)
set_option maxRecDepth 100000 in
theorem cbX2 : CB nX2 := ⟨mT 148 rfl rfl, mT 57 (by decide +kernel) rfl, mT 147 (by decide +kernel) rfl, rfl, by decide +kernel, by decide +kernel, by decide +kernel⟩
set_option maxRecDepth 100000 in
theorem cn9_26 : CN RX9 26 2 4 [.null, .null, .null, .null] := ⟨RX2, TX2, tyX2, rfl, mT 144 (by decide +kernel) rfl, mT 145 (by decide +kernel) rfl, mT 57 (by decide +kernel) rfl, clX2, tyX2_ok, by decide +kernel⟩
abbrev nX3 : MM := (yX3_init, cX3_init, 1, none)
set_option maxRecDepth 100000 in
theorem cbX3 : CB nX3 := ⟨mT 195 rfl rfl, mT 59 (by decide +kernel) rfl, mT 194 (by decide +kernel) rfl, rfl, by decide +kernel, by decide +kernel, by decide +kernel⟩
set_option maxRecDepth 100000 in
theorem cn9_40 : CN RX9 40 3 5 [.int 0, .null, .null, .null, .null] := ⟨RX3, TX3, tyX3, rfl, mT 191 (by decide +kernel) rfl, mT 192 (by decide +kernel) rfl, mT 59 (by decide +kernel) rfl, clX3, tyX3_ok, by decide +kernel⟩
abbrev nX4 : MM := (yX4_init, cX4_init, 1, none)
set_option maxRecDepth 100000 in
theorem cbX4 : CB nX4 := ⟨mT 99 rfl rfl, mT 56 (by decide +kernel) rfl, mT 98 (by decide +kernel) rfl, rfl, by decide +kernel, by decide +kernel, by decide +kernel⟩
set_option maxRecDepth 100000 in
theorem cn9_16 : CN RX9 16 4 6 [.int 0, .int 0, .null, .null, .null, .null] := ⟨RX4, TX4, tyX4, rfl, mT 95 (by decide +kernel) rfl, mT 96 (by decide +kernel) rfl, mT 56 (by decide +kernel) rfl, clX4, tyX4_ok, by decide +kernel⟩
theorem cr4_18 : Cond.classLink RX4 18 "[[I" ∈ wsT := mT 101 (by decide +kernel) rfl
abbrev nX5 : MM := (yX5_init, cX5_init, 1, none)
set_option maxRecDepth 100000 in
theorem cbX5 : CB nX5 := ⟨mT 219 rfl rfl, mT 60 (by decide +kernel) rfl, mT 218 (by decide +kernel) rfl, rfl, by decide +kernel, by decide +kernel, by decide +kernel⟩
set_option maxRecDepth 100000 in
theorem cn9_47 : CN RX9 47 5 5 [.int 0, .int 0, .null, .null, .null] := ⟨RX5, TX5, tyX5, rfl, mT 215 (by decide +kernel) rfl, mT 216 (by decide +kernel) rfl, mT 60 (by decide +kernel) rfl, clX5, tyX5_ok, by decide +kernel⟩
abbrev nX6 : MM := (yX6_init, cX6_init, 1, none)
set_option maxRecDepth 100000 in
theorem cbX6 : CB nX6 := ⟨mT 278 rfl rfl, mT 63 (by decide +kernel) rfl, mT 277 (by decide +kernel) rfl, rfl, by decide +kernel, by decide +kernel, by decide +kernel⟩
set_option maxRecDepth 100000 in
theorem cn9_68 : CN RX9 68 6 2 [.int 0, .null] := ⟨RX6, TX6, tyX6, rfl, mT 274 (by decide +kernel) rfl, mT 275 (by decide +kernel) rfl, mT 63 (by decide +kernel) rfl, clX6, tyX6_ok, by decide +kernel⟩
theorem cr6_9 : Cond.classLink RX6 9 "[[I" ∈ wsT := mT 280 (by decide +kernel) rfl
abbrev nX7 : MM := (yX7_init, cX7_init, 1, none)
set_option maxRecDepth 100000 in
theorem cbX7 : CB nX7 := ⟨mT 244 rfl rfl, mT 61 (by decide +kernel) rfl, mT 243 (by decide +kernel) rfl, rfl, by decide +kernel, by decide +kernel, by decide +kernel⟩
set_option maxRecDepth 100000 in
theorem cn9_54 : CN RX9 54 7 3 [.int 0, .null, .null] := ⟨RX7, TX7, tyX7, rfl, mT 240 (by decide +kernel) rfl, mT 241 (by decide +kernel) rfl, mT 61 (by decide +kernel) rfl, clX7, tyX7_ok, by decide +kernel⟩
abbrev nX8 : MM := (yX8_init, cX8_init, 1, none)
set_option maxRecDepth 100000 in
theorem cbX8 : CB nX8 := ⟨mT 80 rfl rfl, mT 55 (by decide +kernel) rfl, mT 79 (by decide +kernel) rfl, rfl, by decide +kernel, by decide +kernel, by decide +kernel⟩
set_option maxRecDepth 100000 in
theorem cn9_9 : CN RX9 9 8 3 [.int 0, .null, .null] := ⟨RX8, TX8, tyX8, rfl, mT 76 (by decide +kernel) rfl, mT 77 (by decide +kernel) rfl, mT 55 (by decide +kernel) rfl, clX8, tyX8_ok, by decide +kernel⟩
abbrev nX9 : MM := (yX9_init, cX9_init, 1, none)
set_option maxRecDepth 100000 in
theorem cbX9 : CB nX9 := ⟨mT 72 rfl rfl, mT 54 (by decide +kernel) rfl, mT 71 (by decide +kernel) rfl, rfl, by decide +kernel, by decide +kernel, by decide +kernel⟩
set_option maxRecDepth 100000 in
theorem cnL_7 : CN RL 7 9 10 [.null, .null, .null, .null, .null, .null, .null, .null, .null, .null] := ⟨RX9, TX9, tyX9, rfl, mT 68 (by decide +kernel) rfl, mT 69 (by decide +kernel) rfl, mT 54 (by decide +kernel) rfl, clX9, tyX9_ok, by decide +kernel⟩
abbrev nX10 : MM := (yX10_init, cX10_init, 1, none)
set_option maxRecDepth 100000 in
theorem cbX10 : CB nX10 := ⟨mT 702 rfl rfl, mT 65 (by decide +kernel) rfl, mT 701 (by decide +kernel) rfl, rfl, by decide +kernel, by decide +kernel, by decide +kernel⟩
set_option maxRecDepth 100000 in
theorem cnL_10 : CN RL 10 10 29 [.int 0, .null, .null, .null, .null, .null, .null, .null, .null, .null, .int 0, .int 0, .null, .int 0, .null, .null, .int 0, .null, .null, .null, .int 0, .int 0, .int 0, .null, .null, .null, .null, .null, .null] := ⟨RX10, TX10, tyX10, rfl, mT 698 (by decide +kernel) rfl, mT 699 (by decide +kernel) rfl, mT 65 (by decide +kernel) rfl, clX10, tyX10_ok, by decide +kernel⟩
set_option maxRecDepth 100000 in
theorem ff8_9 : FF RX8 9 8 1 := ⟨RX8, TX8, 3, tyX8, .array .byte, rfl, by decide, mT 84 (by decide +kernel) rfl, clX8, tyX8_ok, nmX8, rfl, rfl, by decide +kernel, fun _ => ⟨rfl, rfl⟩⟩
set_option maxRecDepth 100000 in
theorem ff8_15 : FF RX8 15 8 2 := ⟨RX8, TX8, 3, tyX8, .array .int, rfl, by decide, mT 85 (by decide +kernel) rfl, clX8, tyX8_ok, nmX8, rfl, rfl, by decide +kernel, fun _ => ⟨rfl, rfl⟩⟩
set_option maxRecDepth 100000 in
theorem ff4_9 : FF RX4 9 4 2 := ⟨RX4, TX4, 6, tyX4, .array .int, rfl, by decide, mT 113 (by decide +kernel) rfl, clX4, tyX4_ok, nmX4, rfl, rfl, by decide +kernel, fun _ => ⟨rfl, rfl⟩⟩
set_option maxRecDepth 100000 in
theorem ff4_15 : FF RX4 15 4 3 := ⟨RX4, TX4, 6, tyX4, .array .int, rfl, by decide, mT 118 (by decide +kernel) rfl, clX4, tyX4_ok, nmX4, rfl, rfl, by decide +kernel, fun _ => ⟨rfl, rfl⟩⟩
set_option maxRecDepth 100000 in
theorem ff4_20 : FF RX4 20 4 4 := ⟨RX4, TX4, 6, tyX4, .array (.array .int), rfl, by decide, mT 120 (by decide +kernel) rfl, clX4, tyX4_ok, nmX4, rfl, rfl, by decide +kernel, fun _ => ⟨rfl, rfl⟩⟩
set_option maxRecDepth 100000 in
theorem ff4_23 : FF RX4 23 4 5 := ⟨RX4, TX4, 6, tyX4, .array .int, rfl, by decide, mT 125 (by decide +kernel) rfl, clX4, tyX4_ok, nmX4, rfl, rfl, by decide +kernel, fun _ => ⟨rfl, rfl⟩⟩
set_option maxRecDepth 100000 in
theorem ff2_9 : FF RX2 9 2 0 := ⟨RX2, TX2, 4, tyX2, .array .int, rfl, by decide, mT 150 (by decide +kernel) rfl, clX2, tyX2_ok, nmX2, rfl, rfl, by decide +kernel, fun _ => ⟨rfl, rfl⟩⟩
set_option maxRecDepth 100000 in
theorem ff2_15 : FF RX2 15 2 1 := ⟨RX2, TX2, 4, tyX2, .array .int, rfl, by decide, mT 152 (by decide +kernel) rfl, clX2, tyX2_ok, nmX2, rfl, rfl, by decide +kernel, fun _ => ⟨rfl, rfl⟩⟩
set_option maxRecDepth 100000 in
theorem ff2_18 : FF RX2 18 2 2 := ⟨RX2, TX2, 4, tyX2, .array .int, rfl, by decide, mT 154 (by decide +kernel) rfl, clX2, tyX2_ok, nmX2, rfl, rfl, by decide +kernel, fun _ => ⟨rfl, rfl⟩⟩
set_option maxRecDepth 100000 in
theorem ff2_21 : FF RX2 21 2 3 := ⟨RX2, TX2, 4, tyX2, .array .int, rfl, by decide, mT 155 (by decide +kernel) rfl, clX2, tyX2_ok, nmX2, rfl, rfl, by decide +kernel, fun _ => ⟨rfl, rfl⟩⟩
set_option maxRecDepth 100000 in
theorem ff1_11 : FF RX1 11 1 3 := ⟨RX1, TX1, 5, tyX1, .array (.array .int), rfl, by decide, mT 178 (by decide +kernel) rfl, clX1, tyX1_ok, nmX1, rfl, rfl, by decide +kernel, fun _ => ⟨rfl, rfl⟩⟩
set_option maxRecDepth 100000 in
theorem ff1_16 : FF RX1 16 1 4 := ⟨RX1, TX1, 5, tyX1, .array (.array .int), rfl, by decide, mT 179 (by decide +kernel) rfl, clX1, tyX1_ok, nmX1, rfl, rfl, by decide +kernel, fun _ => ⟨rfl, rfl⟩⟩
set_option maxRecDepth 100000 in
theorem ff3_9 : FF RX3 9 3 1 := ⟨RX3, TX3, 5, tyX3, .array .int, rfl, by decide, mT 199 (by decide +kernel) rfl, clX3, tyX3_ok, nmX3, rfl, rfl, by decide +kernel, fun _ => ⟨rfl, rfl⟩⟩
set_option maxRecDepth 100000 in
theorem ff3_15 : FF RX3 15 3 2 := ⟨RX3, TX3, 5, tyX3, .array .int, rfl, by decide, mT 201 (by decide +kernel) rfl, clX3, tyX3_ok, nmX3, rfl, rfl, by decide +kernel, fun _ => ⟨rfl, rfl⟩⟩
set_option maxRecDepth 100000 in
theorem ff3_18 : FF RX3 18 3 3 := ⟨RX3, TX3, 5, tyX3, .array .int, rfl, by decide, mT 202 (by decide +kernel) rfl, clX3, tyX3_ok, nmX3, rfl, rfl, by decide +kernel, fun _ => ⟨rfl, rfl⟩⟩
set_option maxRecDepth 100000 in
theorem ff3_21 : FF RX3 21 3 4 := ⟨RX3, TX3, 5, tyX3, .array .int, rfl, by decide, mT 203 (by decide +kernel) rfl, clX3, tyX3_ok, nmX3, rfl, rfl, by decide +kernel, fun _ => ⟨rfl, rfl⟩⟩
set_option maxRecDepth 100000 in
theorem ff5_9 : FF RX5 9 5 2 := ⟨RX5, TX5, 5, tyX5, .array .int, rfl, by decide, mT 225 (by decide +kernel) rfl, clX5, tyX5_ok, nmX5, rfl, rfl, by decide +kernel, fun _ => ⟨rfl, rfl⟩⟩
set_option maxRecDepth 100000 in
theorem ff5_15 : FF RX5 15 5 3 := ⟨RX5, TX5, 5, tyX5, .array .int, rfl, by decide, mT 227 (by decide +kernel) rfl, clX5, tyX5_ok, nmX5, rfl, rfl, by decide +kernel, fun _ => ⟨rfl, rfl⟩⟩
set_option maxRecDepth 100000 in
theorem ff5_18 : FF RX5 18 5 4 := ⟨RX5, TX5, 5, tyX5, .array .int, rfl, by decide, mT 228 (by decide +kernel) rfl, clX5, tyX5_ok, nmX5, rfl, rfl, by decide +kernel, fun _ => ⟨rfl, rfl⟩⟩
set_option maxRecDepth 100000 in
theorem ff7_9 : FF RX7 9 7 1 := ⟨RX7, TX7, 3, tyX7, .array .int, rfl, by decide, mT 248 (by decide +kernel) rfl, clX7, tyX7_ok, nmX7, rfl, rfl, by decide +kernel, fun _ => ⟨rfl, rfl⟩⟩
set_option maxRecDepth 100000 in
theorem ff7_15 : FF RX7 15 7 2 := ⟨RX7, TX7, 3, tyX7, .array .int, rfl, by decide, mT 249 (by decide +kernel) rfl, clX7, tyX7_ok, nmX7, rfl, rfl, by decide +kernel, fun _ => ⟨rfl, rfl⟩⟩
set_option maxRecDepth 100000 in
theorem ff0_9 : FF RX0 9 0 1 := ⟨RX0, TX0, 3, tyX0, .array .int, rfl, by decide, mT 265 (by decide +kernel) rfl, clX0, tyX0_ok, nmX0, rfl, rfl, by decide +kernel, fun _ => ⟨rfl, rfl⟩⟩
set_option maxRecDepth 100000 in
theorem ff0_15 : FF RX0 15 0 2 := ⟨RX0, TX0, 3, tyX0, .array .int, rfl, by decide, mT 266 (by decide +kernel) rfl, clX0, tyX0_ok, nmX0, rfl, rfl, by decide +kernel, fun _ => ⟨rfl, rfl⟩⟩
set_option maxRecDepth 100000 in
theorem ff6_11 : FF RX6 11 6 1 := ⟨RX6, TX6, 2, tyX6, .array (.array .int), rfl, by decide, mT 283 (by decide +kernel) rfl, clX6, tyX6_ok, nmX6, rfl, rfl, by decide +kernel, fun _ => ⟨rfl, rfl⟩⟩
set_option maxRecDepth 100000 in
theorem ff9_12 : FF RX9 12 9 0 := ⟨RX9, TX9, 10, tyX9, .object "LotsBid$Text", rfl, by decide, mT 319 (by decide +kernel) rfl, clX9, tyX9_ok, nmX9, rfl, rfl, by decide +kernel, fun _ => ⟨rfl, rfl⟩⟩
set_option maxRecDepth 100000 in
theorem ff9_19 : FF RX9 19 9 1 := ⟨RX9, TX9, 10, tyX9, .object "LotsBid$Plan", rfl, by decide, mT 320 (by decide +kernel) rfl, clX9, tyX9_ok, nmX9, rfl, rfl, by decide +kernel, fun _ => ⟨rfl, rfl⟩⟩
set_option maxRecDepth 100000 in
theorem ff9_23 : FF RX9 23 9 2 := ⟨RX9, TX9, 10, tyX9, .object "LotsBid$Plan", rfl, by decide, mT 321 (by decide +kernel) rfl, clX9, tyX9_ok, nmX9, rfl, rfl, by decide +kernel, fun _ => ⟨rfl, rfl⟩⟩
set_option maxRecDepth 100000 in
theorem ff9_29 : FF RX9 29 9 3 := ⟨RX9, TX9, 10, tyX9, .object "LotsBid$Hiring", rfl, by decide, mT 322 (by decide +kernel) rfl, clX9, tyX9_ok, nmX9, rfl, rfl, by decide +kernel, fun _ => ⟨rfl, rfl⟩⟩
set_option maxRecDepth 100000 in
theorem ff9_36 : FF RX9 36 9 4 := ⟨RX9, TX9, 10, tyX9, .object "LotsBid$Game", rfl, by decide, mT 323 (by decide +kernel) rfl, clX9, tyX9_ok, nmX9, rfl, rfl, by decide +kernel, fun _ => ⟨rfl, rfl⟩⟩
set_option maxRecDepth 100000 in
theorem ff9_43 : FF RX9 43 9 5 := ⟨RX9, TX9, 10, tyX9, .object "LotsBid$Pairing", rfl, by decide, mT 324 (by decide +kernel) rfl, clX9, tyX9_ok, nmX9, rfl, rfl, by decide +kernel, fun _ => ⟨rfl, rfl⟩⟩
set_option maxRecDepth 100000 in
theorem ff9_50 : FF RX9 50 9 6 := ⟨RX9, TX9, 10, tyX9, .object "LotsBid$Prices", rfl, by decide, mT 325 (by decide +kernel) rfl, clX9, tyX9_ok, nmX9, rfl, rfl, by decide +kernel, fun _ => ⟨rfl, rfl⟩⟩
set_option maxRecDepth 100000 in
theorem ff9_57 : FF RX9 57 9 7 := ⟨RX9, TX9, 10, tyX9, .object "LotsBid$Sightings", rfl, by decide, mT 326 (by decide +kernel) rfl, clX9, tyX9_ok, nmX9, rfl, rfl, by decide +kernel, fun _ => ⟨rfl, rfl⟩⟩
set_option maxRecDepth 100000 in
theorem ff9_64 : FF RX9 64 9 8 := ⟨RX9, TX9, 10, tyX9, .object "LotsBid$Changes", rfl, by decide, mT 327 (by decide +kernel) rfl, clX9, tyX9_ok, nmX9, rfl, rfl, by decide +kernel, fun _ => ⟨rfl, rfl⟩⟩
set_option maxRecDepth 100000 in
theorem ff9_71 : FF RX9 71 9 9 := ⟨RX9, TX9, 10, tyX9, .object "LotsBid$Shelf", rfl, by decide, mT 328 (by decide +kernel) rfl, clX9, tyX9_ok, nmX9, rfl, rfl, by decide +kernel, fun _ => ⟨rfl, rfl⟩⟩
set_option maxRecDepth 100000 in
theorem ff10_7 : FF RX10 7 10 1 := ⟨RX10, TX10, 29, tyX10, .array .int, rfl, by decide, mT 709 (by decide +kernel) rfl, clX10, tyX10_ok, nmX10, rfl, rfl, by decide +kernel, fun _ => ⟨rfl, rfl⟩⟩
set_option maxRecDepth 100000 in
theorem ff10_13 : FF RX10 13 10 2 := ⟨RX10, TX10, 29, tyX10, .array .int, rfl, by decide, mT 710 (by decide +kernel) rfl, clX10, tyX10_ok, nmX10, rfl, rfl, by decide +kernel, fun _ => ⟨rfl, rfl⟩⟩
set_option maxRecDepth 100000 in
theorem ff10_16 : FF RX10 16 10 3 := ⟨RX10, TX10, 29, tyX10, .array .int, rfl, by decide, mT 711 (by decide +kernel) rfl, clX10, tyX10_ok, nmX10, rfl, rfl, by decide +kernel, fun _ => ⟨rfl, rfl⟩⟩
set_option maxRecDepth 100000 in
theorem ff10_19 : FF RX10 19 10 4 := ⟨RX10, TX10, 29, tyX10, .array .int, rfl, by decide, mT 712 (by decide +kernel) rfl, clX10, tyX10_ok, nmX10, rfl, rfl, by decide +kernel, fun _ => ⟨rfl, rfl⟩⟩
set_option maxRecDepth 100000 in
theorem ff10_22 : FF RX10 22 10 5 := ⟨RX10, TX10, 29, tyX10, .array .int, rfl, by decide, mT 713 (by decide +kernel) rfl, clX10, tyX10_ok, nmX10, rfl, rfl, by decide +kernel, fun _ => ⟨rfl, rfl⟩⟩
set_option maxRecDepth 100000 in
theorem ff10_25 : FF RX10 25 10 6 := ⟨RX10, TX10, 29, tyX10, .array .int, rfl, by decide, mT 714 (by decide +kernel) rfl, clX10, tyX10_ok, nmX10, rfl, rfl, by decide +kernel, fun _ => ⟨rfl, rfl⟩⟩
set_option maxRecDepth 100000 in
theorem ff10_28 : FF RX10 28 10 7 := ⟨RX10, TX10, 29, tyX10, .array .int, rfl, by decide, mT 715 (by decide +kernel) rfl, clX10, tyX10_ok, nmX10, rfl, rfl, by decide +kernel, fun _ => ⟨rfl, rfl⟩⟩
set_option maxRecDepth 100000 in
theorem ff10_31 : FF RX10 31 10 8 := ⟨RX10, TX10, 29, tyX10, .array .int, rfl, by decide, mT 716 (by decide +kernel) rfl, clX10, tyX10_ok, nmX10, rfl, rfl, by decide +kernel, fun _ => ⟨rfl, rfl⟩⟩
set_option maxRecDepth 100000 in
theorem ff10_34 : FF RX10 34 10 9 := ⟨RX10, TX10, 29, tyX10, .array .int, rfl, by decide, mT 717 (by decide +kernel) rfl, clX10, tyX10_ok, nmX10, rfl, rfl, by decide +kernel, fun _ => ⟨rfl, rfl⟩⟩
set_option maxRecDepth 100000 in
theorem ff10_37 : FF RX10 37 10 12 := ⟨RX10, TX10, 29, tyX10, .array .int, rfl, by decide, mT 720 (by decide +kernel) rfl, clX10, tyX10_ok, nmX10, rfl, rfl, by decide +kernel, fun _ => ⟨rfl, rfl⟩⟩
set_option maxRecDepth 100000 in
theorem ff10_40 : FF RX10 40 10 14 := ⟨RX10, TX10, 29, tyX10, .array .int, rfl, by decide, mT 722 (by decide +kernel) rfl, clX10, tyX10_ok, nmX10, rfl, rfl, by decide +kernel, fun _ => ⟨rfl, rfl⟩⟩
set_option maxRecDepth 100000 in
theorem ff10_43 : FF RX10 43 10 15 := ⟨RX10, TX10, 29, tyX10, .array .int, rfl, by decide, mT 723 (by decide +kernel) rfl, clX10, tyX10_ok, nmX10, rfl, rfl, by decide +kernel, fun _ => ⟨rfl, rfl⟩⟩
set_option maxRecDepth 100000 in
theorem ff10_46 : FF RX10 46 10 17 := ⟨RX10, TX10, 29, tyX10, .array .int, rfl, by decide, mT 725 (by decide +kernel) rfl, clX10, tyX10_ok, nmX10, rfl, rfl, by decide +kernel, fun _ => ⟨rfl, rfl⟩⟩
set_option maxRecDepth 100000 in
theorem ff10_49 : FF RX10 49 10 18 := ⟨RX10, TX10, 29, tyX10, .array .int, rfl, by decide, mT 726 (by decide +kernel) rfl, clX10, tyX10_ok, nmX10, rfl, rfl, by decide +kernel, fun _ => ⟨rfl, rfl⟩⟩
set_option maxRecDepth 100000 in
theorem ff10_52 : FF RX10 52 10 19 := ⟨RX10, TX10, 29, tyX10, .array .int, rfl, by decide, mT 727 (by decide +kernel) rfl, clX10, tyX10_ok, nmX10, rfl, rfl, by decide +kernel, fun _ => ⟨rfl, rfl⟩⟩
set_option maxRecDepth 100000 in
theorem ff10_55 : FF RX10 55 10 23 := ⟨RX10, TX10, 29, tyX10, .array .int, rfl, by decide, mT 731 (by decide +kernel) rfl, clX10, tyX10_ok, nmX10, rfl, rfl, by decide +kernel, fun _ => ⟨rfl, rfl⟩⟩
set_option maxRecDepth 100000 in
theorem ff10_58 : FF RX10 58 10 24 := ⟨RX10, TX10, 29, tyX10, .array .int, rfl, by decide, mT 732 (by decide +kernel) rfl, clX10, tyX10_ok, nmX10, rfl, rfl, by decide +kernel, fun _ => ⟨rfl, rfl⟩⟩
set_option maxRecDepth 100000 in
theorem ff10_61 : FF RX10 61 10 25 := ⟨RX10, TX10, 29, tyX10, .array .int, rfl, by decide, mT 733 (by decide +kernel) rfl, clX10, tyX10_ok, nmX10, rfl, rfl, by decide +kernel, fun _ => ⟨rfl, rfl⟩⟩
set_option maxRecDepth 100000 in
theorem ff10_64 : FF RX10 64 10 26 := ⟨RX10, TX10, 29, tyX10, .array .int, rfl, by decide, mT 734 (by decide +kernel) rfl, clX10, tyX10_ok, nmX10, rfl, rfl, by decide +kernel, fun _ => ⟨rfl, rfl⟩⟩
set_option maxRecDepth 100000 in
theorem ff10_67 : FF RX10 67 10 27 := ⟨RX10, TX10, 29, tyX10, .array .int, rfl, by decide, mT 735 (by decide +kernel) rfl, clX10, tyX10_ok, nmX10, rfl, rfl, by decide +kernel, fun _ => ⟨rfl, rfl⟩⟩
set_option maxRecDepth 100000 in
theorem ff10_70 : FF RX10 70 10 28 := ⟨RX10, TX10, 29, tyX10, .array .int, rfl, by decide, mT 736 (by decide +kernel) rfl, clX10, tyX10_ok, nmX10, rfl, rfl, by decide +kernel, fun _ => ⟨rfl, rfl⟩⟩

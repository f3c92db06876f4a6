theorem nw_Doubts_9 : NW "PacedMap$Doubts" 9 0 9 [.null, .null, .null, .null, .null, .null, .null, .int 0, .int 0] := ⟨_, _, t_Chart, rfl, wl_Chart, t_Chart_ok, (tk_2 92 (by decide +kernel) rfl), (tk_2 47 (by decide +kernel) rfl), (tk_1 9 (by decide +kernel) rfl), by decide +kernel, fun _ => rfl⟩
theorem nw_Law_7 : NW "PacedMapLaw" 7 11 19 [.null, .null, .null, .null, .null, .null, .null, .null, .null, .null, .null, .null, .null, .null, .int 0, .int 0, .int 0, .long 0, .long 0] := ⟨_, _, t_PM, rfl, wl_PM, t_PM_ok, (tk_1 22 (by decide +kernel) rfl), (tk_1 23 (by decide +kernel) rfl), (tk_1 1 (by decide +kernel) rfl), by decide +kernel, fun _ => rfl⟩
theorem nw_Law_10 : NW "PacedMapLaw" 10 12 50 [.null, .null, .int 0, .long 0, .long 0, .null, .null, .null, .null, .null, .int 0, .int 0, .int 0, .int 0, .int 0, .int 0, .int 0, .int 0, .int 0, .int 0, .int 0, .null, .int 0, .int 0, .null, .null, .null, .null, .null, .null, .null, .int 0, .int 0, .int 0, .null, .null, .null, .int 0, .null, .null, .null, .null, .null, .int 0, .int 0, .null, .null, .null, .int 0, .int 0] := ⟨_, _, t_Mo, rfl, wl_Mo, t_Mo_ok, (tk_6 161 (by decide +kernel) rfl), (tk_6 162 (by decide +kernel) rfl), (tk_1 15 (by decide +kernel) rfl), by decide +kernel, fun _ => rfl⟩
theorem nw_Life_9 : NW "PacedMap$Life" 9 0 9 [.null, .null, .null, .null, .null, .null, .null, .int 0, .int 0] := ⟨_, _, t_Chart, rfl, wl_Chart, t_Chart_ok, (tk_2 203 (by decide +kernel) rfl), (tk_2 47 (by decide +kernel) rfl), (tk_1 9 (by decide +kernel) rfl), by decide +kernel, fun _ => rfl⟩
theorem cw_PM_9 : Cond.classLink "PacedMap" 9 "PacedMap$Tray" ∈ TbL := (tk_1 30 (by decide +kernel) rfl)
theorem nw_PM_9 : NW "PacedMap" 9 10 4 [.null, .int 0, .int 0, .int 0] := ⟨_, _, t_Tray, rfl, wl_Tray, t_Tray_ok, (tk_1 30 (by decide +kernel) rfl), (tk_2 223 (by decide +kernel) rfl), (tk_1 14 (by decide +kernel) rfl), by decide +kernel, fun _ => rfl⟩
theorem nw_PM_15 : NW "PacedMap" 15 7 16 [.null, .null, .null, .null, .null, .int 0, .int 0, .int 0, .int 0, .int 0, .int 0, .int 0, .int 0, .long 0, .int 0, .int 0] := ⟨_, _, t_Text, rfl, wl_Text, t_Text_ok, (tk_1 32 (by decide +kernel) rfl), (tk_1 33 (by decide +kernel) rfl), (tk_1 2 (by decide +kernel) rfl), by decide +kernel, fun _ => rfl⟩
theorem cw_PM_22 : Cond.classLink "PacedMap" 22 "PacedMap$Town" ∈ TbL := (tk_1 154 (by decide +kernel) rfl)
theorem nw_PM_22 : NW "PacedMap" 22 8 15 [.null, .null, .null, .null, .null, .null, .null, .null, .int 0, .int 0, .int 0, .int 0, .int 0, .int 0, .int 0] := ⟨_, _, t_Town, rfl, wl_Town, t_Town_ok, (tk_1 154 (by decide +kernel) rfl), (tk_1 155 (by decide +kernel) rfl), (tk_1 7 (by decide +kernel) rfl), by decide +kernel, fun _ => rfl⟩
theorem cw_PM_32 : Cond.classLink "PacedMap" 32 "PacedMap$Days" ∈ TbL := (tk_2 9 (by decide +kernel) rfl)
theorem nw_PM_32 : NW "PacedMap" 32 1 6 [.null, .null, .null, .int 0, .int 0, .int 0] := ⟨_, _, t_Days, rfl, wl_Days, t_Days_ok, (tk_2 9 (by decide +kernel) rfl), (tk_2 10 (by decide +kernel) rfl), (tk_1 8 (by decide +kernel) rfl), by decide +kernel, fun _ => rfl⟩
theorem nw_PM_50 : NW "PacedMap" 50 0 9 [.null, .null, .null, .null, .null, .null, .null, .int 0, .int 0] := ⟨_, _, t_Chart, rfl, wl_Chart, t_Chart_ok, (tk_2 46 (by decide +kernel) rfl), (tk_2 47 (by decide +kernel) rfl), (tk_1 9 (by decide +kernel) rfl), by decide +kernel, fun _ => rfl⟩
theorem nw_PM_57 : NW "PacedMap" 57 3 14 [.null, .null, .null, .null, .null, .null, .int 0, .int 0, .int 0, .int 0, .int 0, .int 0, .int 0, .int 0] := ⟨_, _, t_Doubts, rfl, wl_Doubts, t_Doubts_ok, (tk_2 86 (by decide +kernel) rfl), (tk_2 87 (by decide +kernel) rfl), (tk_1 10 (by decide +kernel) rfl), by decide +kernel, fun _ => rfl⟩
theorem nw_PM_64 : NW "PacedMap" 64 6 7 [.null, .null, .null, .int 0, .int 0, .int 0, .int 0] := ⟨_, _, t_Paths, rfl, wl_Paths, t_Paths_ok, (tk_2 141 (by decide +kernel) rfl), (tk_2 142 (by decide +kernel) rfl), (tk_1 11 (by decide +kernel) rfl), by decide +kernel, fun _ => rfl⟩
theorem nw_PM_71 : NW "PacedMap" 71 4 6 [.null, .null, .int 0, .int 0, .int 0, .int 0] := ⟨_, _, t_Game, rfl, wl_Game, t_Game_ok, (tk_2 172 (by decide +kernel) rfl), (tk_2 173 (by decide +kernel) rfl), (tk_1 12 (by decide +kernel) rfl), by decide +kernel, fun _ => rfl⟩
theorem nw_PM_78 : NW "PacedMap" 78 5 5 [.null, .null, .null, .int 0, .int 0] := ⟨_, _, t_Life, rfl, wl_Life, t_Life_ok, (tk_2 197 (by decide +kernel) rfl), (tk_2 198 (by decide +kernel) rfl), (tk_1 13 (by decide +kernel) rfl), by decide +kernel, fun _ => rfl⟩
theorem nw_PM_164 : NW "PacedMap" 164 9 3 [.null, .null, .int 0] := ⟨_, _, t_TownText, rfl, wl_TownText, t_TownText_ok, (tk_3 188 (by decide +kernel) rfl), (tk_3 189 (by decide +kernel) rfl), (tk_1 19 (by decide +kernel) rfl), by decide +kernel, fun _ => rfl⟩
theorem nw_PM_185 : NW "PacedMap" 185 2 5 [.null, .null, .null, .null, .int 0] := ⟨_, _, t_DaysText, rfl, wl_DaysText, t_DaysText_ok, (tk_4 84 (by decide +kernel) rfl), (tk_4 85 (by decide +kernel) rfl), (tk_1 20 (by decide +kernel) rfl), by decide +kernel, fun _ => rfl⟩
theorem ct_Doubts_143 : Cond.constant "PacedMap$Doubts" 143 (-1640531527 : Int32) ∈ TbL := (tk_5 224 (by decide +kernel) rfl)
theorem ct_JInt_265 : Cond.constant "java/lang/Integer" 265 (1431655765 : Int32) ∈ TbL := (tk_5 16 (by decide +kernel) rfl)
theorem ct_JInt_266 : Cond.constant "java/lang/Integer" 266 (858993459 : Int32) ∈ TbL := (tk_5 17 (by decide +kernel) rfl)
theorem ct_JInt_267 : Cond.constant "java/lang/Integer" 267 (252645135 : Int32) ∈ TbL := (tk_5 18 (by decide +kernel) rfl)
theorem ct_Law_32 : Cond.constantLong "PacedMapLaw" 32 (4294967295 : Int64) ∈ TbL := (tk_9 152 (by decide +kernel) rfl)
theorem ct_Life_40 : Cond.constant "PacedMap$Life" 40 (1000000 : Int32) ∈ TbL := (tk_6 106 (by decide +kernel) rfl)
theorem ct_Life_115 : Cond.constant "PacedMap$Life" 115 (65536 : Int32) ∈ TbL := (tk_6 135 (by decide +kernel) rfl)
theorem ct_Mo_133 : Cond.constantLong "PacedMapModel" 133 (-1 : Int64) ∈ TbL := (tk_7 120 (by decide +kernel) rfl)
theorem ct_Mo_165 : Cond.constant "PacedMapModel" 165 (100000 : Int32) ∈ TbL := (tk_7 159 (by decide +kernel) rfl)
theorem ct_Mo_352 : Cond.constantLong "PacedMapModel" 352 (-99 : Int64) ∈ TbL := (tk_8 142 (by decide +kernel) rfl)
theorem ct_Mo_354 : Cond.constantLong "PacedMapModel" 354 (99 : Int64) ∈ TbL := (tk_8 143 (by decide +kernel) rfl)
theorem ct_Mo_369 : Cond.constantLong "PacedMapModel" 369 (23 : Int64) ∈ TbL := (tk_8 174 (by decide +kernel) rfl)
theorem ct_Mo_381 : Cond.constantLong "PacedMapModel" 381 (16 : Int64) ∈ TbL := (tk_8 199 (by decide +kernel) rfl)
theorem ct_Mo_418 : Cond.constant "PacedMapModel" 418 (100000000 : Int32) ∈ TbL := (tk_9 24 (by decide +kernel) rfl)
theorem ct_Mo_437 : Cond.constantLong "PacedMapModel" 437 (3 : Int64) ∈ TbL := (tk_9 49 (by decide +kernel) rfl)
theorem ct_Mo_439 : Cond.constantLong "PacedMapModel" 439 (20 : Int64) ∈ TbL := (tk_9 50 (by decide +kernel) rfl)
theorem ct_Mo_441 : Cond.constantLong "PacedMapModel" 441 (2 : Int64) ∈ TbL := (tk_9 51 (by decide +kernel) rfl)
theorem ct_Mo_449 : Cond.constantLong "PacedMapModel" 449 (4 : Int64) ∈ TbL := (tk_9 56 (by decide +kernel) rfl)
theorem ct_Mo_454 : Cond.constantLong "PacedMapModel" 454 (12 : Int64) ∈ TbL := (tk_9 77 (by decide +kernel) rfl)
theorem ct_Mo_459 : Cond.constant "PacedMapModel" 459 (65536 : Int32) ∈ TbL := (tk_9 115 (by decide +kernel) rfl)
theorem ct_Mo_485 : Cond.constantLong "PacedMapModel" 485 (9999 : Int64) ∈ TbL := (tk_9 90 (by decide +kernel) rfl)
theorem ct_PM_386 : Cond.constantLong "PacedMap" 386 (2 : Int64) ∈ TbL := (tk_6 36 (by decide +kernel) rfl)
theorem ct_Text_100 : Cond.constantLong "PacedMap$Text" 100 (32 : Int64) ∈ TbL := (tk_1 90 (by decide +kernel) rfl)
theorem ac_int : Cond.arrayClass .int ∈ TbL := (tk_1 153 (by decide +kernel) rfl)
theorem ac_long : Cond.arrayClass .long ∈ TbL := (tk_1 152 (by decide +kernel) rfl)
theorem ac_byte : Cond.arrayClass .byte ∈ TbL := (tk_1 151 (by decide +kernel) rfl)
theorem ac_boolean : Cond.arrayClass .boolean ∈ TbL := (tk_2 85 (by decide +kernel) rfl)
theorem ao_Tray : Cond.arrayOver (.object "PacedMap$Tray") ∈ TbL := (tk_1 31 (by decide +kernel) rfl)
theorem ao_Town : Cond.arrayOver (.object "PacedMap$Town") ∈ TbL := (tk_2 44 (by decide +kernel) rfl)
theorem ao_Days : Cond.arrayOver (.object "PacedMap$Days") ∈ TbL := (tk_2 45 (by decide +kernel) rfl)
theorem oi_inst : Cond.instanceMethod objectInit ∈ TbL := (tk_1 28 (by decide +kernel) rfl)
theorem oi_code : Cond.code objectInit ⟨#[0xb1]⟩ 1 none ∈ TbL := tk_1 29 rfl rfl
theorem acp_n : Cond.native arraycopyName ∈ TbL := (tk_3 132 (by decide +kernel) rfl)
theorem acp_s : Cond.static arraycopyName ∈ TbL := (tk_3 131 (by decide +kernel) rfl)
theorem acp_i : Cond.initialized "java/lang/System" ∈ TbL := (tk_1 17 (by decide +kernel) rfl)

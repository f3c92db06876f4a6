theorem fl_Chart_9 : FL "PacedMap$Chart" 9 0 0 := ⟨_, _, _, rfl, by decide, wl_Chart, (tk_2 52 (by decide +kernel) rfl)⟩
theorem fp_Chart_9 : FP "PacedMap$Chart" 9 0 0 (.array .int) true := ⟨_, _, _, t_Chart, rfl, by decide, wl_Chart, (tk_2 52 (by decide +kernel) rfl), t_Chart_ok, n_Chart, rfl, rfl, fun _ => rfl⟩
theorem fl_Chart_15 : FL "PacedMap$Chart" 15 0 1 := ⟨_, _, _, rfl, by decide, wl_Chart, (tk_2 53 (by decide +kernel) rfl)⟩
theorem fp_Chart_15 : FP "PacedMap$Chart" 15 0 1 (.array .int) true := ⟨_, _, _, t_Chart, rfl, by decide, wl_Chart, (tk_2 53 (by decide +kernel) rfl), t_Chart_ok, n_Chart, rfl, rfl, fun _ => rfl⟩
theorem fl_Chart_18 : FL "PacedMap$Chart" 18 0 2 := ⟨_, _, _, rfl, by decide, wl_Chart, (tk_2 54 (by decide +kernel) rfl)⟩
theorem fp_Chart_18 : FP "PacedMap$Chart" 18 0 2 (.array .int) true := ⟨_, _, _, t_Chart, rfl, by decide, wl_Chart, (tk_2 54 (by decide +kernel) rfl), t_Chart_ok, n_Chart, rfl, rfl, fun _ => rfl⟩
theorem fl_Chart_21 : FL "PacedMap$Chart" 21 0 3 := ⟨_, _, _, rfl, by decide, wl_Chart, (tk_2 57 (by decide +kernel) rfl)⟩
theorem fp_Chart_21 : FP "PacedMap$Chart" 21 0 3 (.array .int) true := ⟨_, _, _, t_Chart, rfl, by decide, wl_Chart, (tk_2 57 (by decide +kernel) rfl), t_Chart_ok, n_Chart, rfl, rfl, fun _ => rfl⟩
theorem fl_Chart_24 : FL "PacedMap$Chart" 24 0 4 := ⟨_, _, _, rfl, by decide, wl_Chart, (tk_2 60 (by decide +kernel) rfl)⟩
theorem fp_Chart_24 : FP "PacedMap$Chart" 24 0 4 (.array .int) true := ⟨_, _, _, t_Chart, rfl, by decide, wl_Chart, (tk_2 60 (by decide +kernel) rfl), t_Chart_ok, n_Chart, rfl, rfl, fun _ => rfl⟩
theorem fl_Chart_27 : FL "PacedMap$Chart" 27 0 5 := ⟨_, _, _, rfl, by decide, wl_Chart, (tk_2 61 (by decide +kernel) rfl)⟩
theorem fp_Chart_27 : FP "PacedMap$Chart" 27 0 5 (.array .int) true := ⟨_, _, _, t_Chart, rfl, by decide, wl_Chart, (tk_2 61 (by decide +kernel) rfl), t_Chart_ok, n_Chart, rfl, rfl, fun _ => rfl⟩
theorem fl_Chart_30 : FL "PacedMap$Chart" 30 0 6 := ⟨_, _, _, rfl, by decide, wl_Chart, (tk_2 62 (by decide +kernel) rfl)⟩
theorem fp_Chart_30 : FP "PacedMap$Chart" 30 0 6 (.array .boolean) true := ⟨_, _, _, t_Chart, rfl, by decide, wl_Chart, (tk_2 62 (by decide +kernel) rfl), t_Chart_ok, n_Chart, rfl, rfl, fun _ => rfl⟩
theorem fl_Chart_34 : FL "PacedMap$Chart" 34 0 7 := ⟨_, _, _, rfl, by decide, wl_Chart, (tk_2 63 (by decide +kernel) rfl)⟩
theorem fp_Chart_34 : FP "PacedMap$Chart" 34 0 7 .int false := ⟨_, _, _, t_Chart, rfl, by decide, wl_Chart, (tk_2 63 (by decide +kernel) rfl), t_Chart_ok, n_Chart, rfl, rfl, (fun h => by cases h)⟩
theorem fl_Chart_38 : FL "PacedMap$Chart" 38 0 8 := ⟨_, _, _, rfl, by decide, wl_Chart, (tk_2 64 (by decide +kernel) rfl)⟩
theorem fp_Chart_38 : FP "PacedMap$Chart" 38 0 8 .int false := ⟨_, _, _, t_Chart, rfl, by decide, wl_Chart, (tk_2 64 (by decide +kernel) rfl), t_Chart_ok, n_Chart, rfl, rfl, (fun h => by cases h)⟩
theorem fl_Chart_58 : FL "PacedMap$Chart" 58 8 10 := ⟨_, _, _, rfl, by decide, wl_Town, (tk_1 200 (by decide +kernel) rfl)⟩
theorem fl_Chart_61 : FL "PacedMap$Chart" 61 8 2 := ⟨_, _, _, rfl, by decide, wl_Town, (tk_1 163 (by decide +kernel) rfl)⟩
theorem fl_Chart_64 : FL "PacedMap$Chart" 64 8 3 := ⟨_, _, _, rfl, by decide, wl_Town, (tk_1 167 (by decide +kernel) rfl)⟩
theorem fl_Chart_80 : FL "PacedMap$Chart" 80 8 8 := ⟨_, _, _, rfl, by decide, wl_Town, (tk_1 189 (by decide +kernel) rfl)⟩
theorem fl_Chart_91 : FL "PacedMap$Chart" 91 8 4 := ⟨_, _, _, rfl, by decide, wl_Town, (tk_1 172 (by decide +kernel) rfl)⟩
theorem fl_Chart_94 : FL "PacedMap$Chart" 94 8 5 := ⟨_, _, _, rfl, by decide, wl_Town, (tk_1 177 (by decide +kernel) rfl)⟩
theorem fl_Days_9 : FL "PacedMap$Days" 9 1 0 := ⟨_, _, _, rfl, by decide, wl_Days, (tk_2 15 (by decide +kernel) rfl)⟩
theorem fp_Days_9 : FP "PacedMap$Days" 9 1 0 (.array .int) true := ⟨_, _, _, t_Days, rfl, by decide, wl_Days, (tk_2 15 (by decide +kernel) rfl), t_Days_ok, n_Days, rfl, rfl, fun _ => rfl⟩
theorem fl_Days_13 : FL "PacedMap$Days" 13 1 1 := ⟨_, _, _, rfl, by decide, wl_Days, (tk_2 17 (by decide +kernel) rfl)⟩
theorem fp_Days_13 : FP "PacedMap$Days" 13 1 1 (.array .int) true := ⟨_, _, _, t_Days, rfl, by decide, wl_Days, (tk_2 17 (by decide +kernel) rfl), t_Days_ok, n_Days, rfl, rfl, fun _ => rfl⟩
theorem fl_Days_16 : FL "PacedMap$Days" 16 1 2 := ⟨_, _, _, rfl, by decide, wl_Days, (tk_2 19 (by decide +kernel) rfl)⟩
theorem fp_Days_16 : FP "PacedMap$Days" 16 1 2 (.array .int) true := ⟨_, _, _, t_Days, rfl, by decide, wl_Days, (tk_2 19 (by decide +kernel) rfl), t_Days_ok, n_Days, rfl, rfl, fun _ => rfl⟩
theorem fl_Days_19 : FL "PacedMap$Days" 19 1 3 := ⟨_, _, _, rfl, by decide, wl_Days, (tk_2 22 (by decide +kernel) rfl)⟩
theorem fp_Days_19 : FP "PacedMap$Days" 19 1 3 .boolean false := ⟨_, _, _, t_Days, rfl, by decide, wl_Days, (tk_2 22 (by decide +kernel) rfl), t_Days_ok, n_Days, rfl, rfl, (fun h => by cases h)⟩
theorem fl_Days_23 : FL "PacedMap$Days" 23 1 4 := ⟨_, _, _, rfl, by decide, wl_Days, (tk_2 25 (by decide +kernel) rfl)⟩
theorem fp_Days_23 : FP "PacedMap$Days" 23 1 4 .int false := ⟨_, _, _, t_Days, rfl, by decide, wl_Days, (tk_2 25 (by decide +kernel) rfl), t_Days_ok, n_Days, rfl, rfl, (fun h => by cases h)⟩
theorem fl_Days_27 : FL "PacedMap$Days" 27 1 5 := ⟨_, _, _, rfl, by decide, wl_Days, (tk_2 28 (by decide +kernel) rfl)⟩
theorem fp_Days_27 : FP "PacedMap$Days" 27 1 5 .int false := ⟨_, _, _, t_Days, rfl, by decide, wl_Days, (tk_2 28 (by decide +kernel) rfl), t_Days_ok, n_Days, rfl, rfl, (fun h => by cases h)⟩
theorem fl_DaysText_11 : FL "PacedMap$DaysText" 11 2 3 := ⟨_, _, _, rfl, by decide, wl_DaysText, (tk_4 93 (by decide +kernel) rfl)⟩
theorem fp_DaysText_11 : FP "PacedMap$DaysText" 11 2 3 (.array .int) true := ⟨_, _, _, t_DaysText, rfl, by decide, wl_DaysText, (tk_4 93 (by decide +kernel) rfl), t_DaysText_ok, n_DaysText, rfl, rfl, fun _ => rfl⟩
theorem fl_DaysText_17 : FL "PacedMap$DaysText" 17 2 4 := ⟨_, _, _, rfl, by decide, wl_DaysText, (tk_4 94 (by decide +kernel) rfl)⟩
theorem fp_DaysText_17 : FP "PacedMap$DaysText" 17 2 4 .int false := ⟨_, _, _, t_DaysText, rfl, by decide, wl_DaysText, (tk_4 94 (by decide +kernel) rfl), t_DaysText_ok, n_DaysText, rfl, rfl, (fun h => by cases h)⟩
theorem fl_DaysText_21 : FL "PacedMap$DaysText" 21 2 0 := ⟨_, _, _, rfl, by decide, wl_DaysText, (tk_4 90 (by decide +kernel) rfl)⟩
theorem fp_DaysText_21 : FP "PacedMap$DaysText" 21 2 0 (.object "PacedMap$Text") true := ⟨_, _, _, t_DaysText, rfl, by decide, wl_DaysText, (tk_4 90 (by decide +kernel) rfl), t_DaysText_ok, n_DaysText, rfl, rfl, fun _ => rfl⟩
theorem fl_DaysText_25 : FL "PacedMap$DaysText" 25 2 1 := ⟨_, _, _, rfl, by decide, wl_DaysText, (tk_4 91 (by decide +kernel) rfl)⟩
theorem fp_DaysText_25 : FP "PacedMap$DaysText" 25 2 1 (.object "PacedMap$Town") true := ⟨_, _, _, t_DaysText, rfl, by decide, wl_DaysText, (tk_4 91 (by decide +kernel) rfl), t_DaysText_ok, n_DaysText, rfl, rfl, fun _ => rfl⟩
theorem fl_DaysText_29 : FL "PacedMap$DaysText" 29 2 2 := ⟨_, _, _, rfl, by decide, wl_DaysText, (tk_4 92 (by decide +kernel) rfl)⟩
theorem fp_DaysText_29 : FP "PacedMap$DaysText" 29 2 2 (.object "PacedMap$Days") true := ⟨_, _, _, t_DaysText, rfl, by decide, wl_DaysText, (tk_4 92 (by decide +kernel) rfl), t_DaysText_ok, n_DaysText, rfl, rfl, fun _ => rfl⟩
theorem fp_DaysText_36 : FP "PacedMap$DaysText" 36 1 3 .boolean false := ⟨_, _, _, t_Days, rfl, by decide, wl_Days, (tk_2 23 (by decide +kernel) rfl), t_Days_ok, n_Days, rfl, rfl, (fun h => by cases h)⟩
theorem fl_DaysText_49 : FL "PacedMap$DaysText" 49 7 11 := ⟨_, _, _, rfl, by decide, wl_Text, (tk_1 106 (by decide +kernel) rfl)⟩
theorem fl_DaysText_62 : FL "PacedMap$DaysText" 62 1 2 := ⟨_, _, _, rfl, by decide, wl_Days, (tk_2 21 (by decide +kernel) rfl)⟩
theorem fl_DaysText_65 : FL "PacedMap$DaysText" 65 1 4 := ⟨_, _, _, rfl, by decide, wl_Days, (tk_2 27 (by decide +kernel) rfl)⟩
theorem fl_DaysText_78 : FL "PacedMap$DaysText" 78 1 5 := ⟨_, _, _, rfl, by decide, wl_Days, (tk_2 29 (by decide +kernel) rfl)⟩
theorem fp_DaysText_78 : FP "PacedMap$DaysText" 78 1 5 .int false := ⟨_, _, _, t_Days, rfl, by decide, wl_Days, (tk_2 29 (by decide +kernel) rfl), t_Days_ok, n_Days, rfl, rfl, (fun h => by cases h)⟩
theorem fl_DaysText_104 : FL "PacedMap$DaysText" 104 7 12 := ⟨_, _, _, rfl, by decide, wl_Text, (tk_1 110 (by decide +kernel) rfl)⟩
theorem fl_DaysText_110 : FL "PacedMap$DaysText" 110 7 13 := ⟨_, _, _, rfl, by decide, wl_Text, (tk_1 113 (by decide +kernel) rfl)⟩
theorem fl_DaysText_127 : FL "PacedMap$DaysText" 127 7 9 := ⟨_, _, _, rfl, by decide, wl_Text, (tk_1 102 (by decide +kernel) rfl)⟩
theorem fl_DaysText_130 : FL "PacedMap$DaysText" 130 7 10 := ⟨_, _, _, rfl, by decide, wl_Text, (tk_1 104 (by decide +kernel) rfl)⟩
theorem fl_Doubts_12 : FL "PacedMap$Doubts" 12 3 0 := ⟨_, _, _, rfl, by decide, wl_Doubts, (tk_2 94 (by decide +kernel) rfl)⟩
theorem fp_Doubts_12 : FP "PacedMap$Doubts" 12 3 0 (.object "PacedMap$Chart") true := ⟨_, _, _, t_Doubts, rfl, by decide, wl_Doubts, (tk_2 94 (by decide +kernel) rfl), t_Doubts_ok, n_Doubts, rfl, rfl, fun _ => rfl⟩
theorem fl_Doubts_18 : FL "PacedMap$Doubts" 18 3 1 := ⟨_, _, _, rfl, by decide, wl_Doubts, (tk_2 95 (by decide +kernel) rfl)⟩
theorem fp_Doubts_18 : FP "PacedMap$Doubts" 18 3 1 (.array .int) true := ⟨_, _, _, t_Doubts, rfl, by decide, wl_Doubts, (tk_2 95 (by decide +kernel) rfl), t_Doubts_ok, n_Doubts, rfl, rfl, fun _ => rfl⟩
theorem fl_Doubts_22 : FL "PacedMap$Doubts" 22 3 2 := ⟨_, _, _, rfl, by decide, wl_Doubts, (tk_2 96 (by decide +kernel) rfl)⟩
theorem fp_Doubts_22 : FP "PacedMap$Doubts" 22 3 2 (.array .int) true := ⟨_, _, _, t_Doubts, rfl, by decide, wl_Doubts, (tk_2 96 (by decide +kernel) rfl), t_Doubts_ok, n_Doubts, rfl, rfl, fun _ => rfl⟩
theorem fl_Doubts_25 : FL "PacedMap$Doubts" 25 3 3 := ⟨_, _, _, rfl, by decide, wl_Doubts, (tk_2 97 (by decide +kernel) rfl)⟩
theorem fp_Doubts_25 : FP "PacedMap$Doubts" 25 3 3 (.array .int) true := ⟨_, _, _, t_Doubts, rfl, by decide, wl_Doubts, (tk_2 97 (by decide +kernel) rfl), t_Doubts_ok, n_Doubts, rfl, rfl, fun _ => rfl⟩
theorem fl_Doubts_28 : FL "PacedMap$Doubts" 28 3 4 := ⟨_, _, _, rfl, by decide, wl_Doubts, (tk_2 98 (by decide +kernel) rfl)⟩
theorem fp_Doubts_28 : FP "PacedMap$Doubts" 28 3 4 (.array .int) true := ⟨_, _, _, t_Doubts, rfl, by decide, wl_Doubts, (tk_2 98 (by decide +kernel) rfl), t_Doubts_ok, n_Doubts, rfl, rfl, fun _ => rfl⟩
theorem fl_Doubts_31 : FL "PacedMap$Doubts" 31 3 5 := ⟨_, _, _, rfl, by decide, wl_Doubts, (tk_2 99 (by decide +kernel) rfl)⟩
theorem fp_Doubts_31 : FP "PacedMap$Doubts" 31 3 5 (.array .int) true := ⟨_, _, _, t_Doubts, rfl, by decide, wl_Doubts, (tk_2 99 (by decide +kernel) rfl), t_Doubts_ok, n_Doubts, rfl, rfl, fun _ => rfl⟩
theorem fp_Doubts_34 : FP "PacedMap$Doubts" 34 3 6 .int false := ⟨_, _, _, t_Doubts, rfl, by decide, wl_Doubts, (tk_2 100 (by decide +kernel) rfl), t_Doubts_ok, n_Doubts, rfl, rfl, (fun h => by cases h)⟩
theorem fl_Doubts_38 : FL "PacedMap$Doubts" 38 3 7 := ⟨_, _, _, rfl, by decide, wl_Doubts, (tk_2 102 (by decide +kernel) rfl)⟩
theorem fp_Doubts_38 : FP "PacedMap$Doubts" 38 3 7 .int false := ⟨_, _, _, t_Doubts, rfl, by decide, wl_Doubts, (tk_2 102 (by decide +kernel) rfl), t_Doubts_ok, n_Doubts, rfl, rfl, (fun h => by cases h)⟩
theorem fl_Doubts_41 : FL "PacedMap$Doubts" 41 3 8 := ⟨_, _, _, rfl, by decide, wl_Doubts, (tk_2 103 (by decide +kernel) rfl)⟩
theorem fp_Doubts_41 : FP "PacedMap$Doubts" 41 3 8 .int false := ⟨_, _, _, t_Doubts, rfl, by decide, wl_Doubts, (tk_2 103 (by decide +kernel) rfl), t_Doubts_ok, n_Doubts, rfl, rfl, (fun h => by cases h)⟩
theorem fl_Doubts_44 : FL "PacedMap$Doubts" 44 3 9 := ⟨_, _, _, rfl, by decide, wl_Doubts, (tk_2 104 (by decide +kernel) rfl)⟩
theorem fp_Doubts_44 : FP "PacedMap$Doubts" 44 3 9 .int false := ⟨_, _, _, t_Doubts, rfl, by decide, wl_Doubts, (tk_2 104 (by decide +kernel) rfl), t_Doubts_ok, n_Doubts, rfl, rfl, (fun h => by cases h)⟩
theorem fl_Doubts_47 : FL "PacedMap$Doubts" 47 3 10 := ⟨_, _, _, rfl, by decide, wl_Doubts, (tk_2 106 (by decide +kernel) rfl)⟩
theorem fp_Doubts_47 : FP "PacedMap$Doubts" 47 3 10 .int false := ⟨_, _, _, t_Doubts, rfl, by decide, wl_Doubts, (tk_2 106 (by decide +kernel) rfl), t_Doubts_ok, n_Doubts, rfl, rfl, (fun h => by cases h)⟩
theorem fl_Doubts_50 : FL "PacedMap$Doubts" 50 3 11 := ⟨_, _, _, rfl, by decide, wl_Doubts, (tk_2 107 (by decide +kernel) rfl)⟩
theorem fp_Doubts_50 : FP "PacedMap$Doubts" 50 3 11 .int false := ⟨_, _, _, t_Doubts, rfl, by decide, wl_Doubts, (tk_2 107 (by decide +kernel) rfl), t_Doubts_ok, n_Doubts, rfl, rfl, (fun h => by cases h)⟩
theorem fp_Doubts_53 : FP "PacedMap$Doubts" 53 3 12 .int false := ⟨_, _, _, t_Doubts, rfl, by decide, wl_Doubts, (tk_2 108 (by decide +kernel) rfl), t_Doubts_ok, n_Doubts, rfl, rfl, (fun h => by cases h)⟩
theorem fp_Doubts_56 : FP "PacedMap$Doubts" 56 3 13 .int false := ⟨_, _, _, t_Doubts, rfl, by decide, wl_Doubts, (tk_2 110 (by decide +kernel) rfl), t_Doubts_ok, n_Doubts, rfl, rfl, (fun h => by cases h)⟩
theorem fl_Doubts_69 : FL "PacedMap$Doubts" 69 8 10 := ⟨_, _, _, rfl, by decide, wl_Town, (tk_1 199 (by decide +kernel) rfl)⟩
theorem fl_Doubts_112 : FL "PacedMap$Doubts" 112 8 9 := ⟨_, _, _, rfl, by decide, wl_Town, (tk_1 193 (by decide +kernel) rfl)⟩
theorem fl_Doubts_119 : FL "PacedMap$Doubts" 119 0 2 := ⟨_, _, _, rfl, by decide, wl_Chart, (tk_2 55 (by decide +kernel) rfl)⟩
theorem fl_Doubts_122 : FL "PacedMap$Doubts" 122 0 3 := ⟨_, _, _, rfl, by decide, wl_Chart, (tk_2 58 (by decide +kernel) rfl)⟩
theorem fl_Doubts_125 : FL "PacedMap$Doubts" 125 8 8 := ⟨_, _, _, rfl, by decide, wl_Town, (tk_1 190 (by decide +kernel) rfl)⟩
theorem fl_Game_9 : FL "PacedMap$Game" 9 4 0 := ⟨_, _, _, rfl, by decide, wl_Game, (tk_2 178 (by decide +kernel) rfl)⟩
theorem fp_Game_9 : FP "PacedMap$Game" 9 4 0 (.array .int) true := ⟨_, _, _, t_Game, rfl, by decide, wl_Game, (tk_2 178 (by decide +kernel) rfl), t_Game_ok, n_Game, rfl, rfl, fun _ => rfl⟩
theorem fl_Game_15 : FL "PacedMap$Game" 15 4 1 := ⟨_, _, _, rfl, by decide, wl_Game, (tk_2 179 (by decide +kernel) rfl)⟩
theorem fp_Game_15 : FP "PacedMap$Game" 15 4 1 (.array .int) true := ⟨_, _, _, t_Game, rfl, by decide, wl_Game, (tk_2 179 (by decide +kernel) rfl), t_Game_ok, n_Game, rfl, rfl, fun _ => rfl⟩
theorem fl_Game_18 : FL "PacedMap$Game" 18 4 2 := ⟨_, _, _, rfl, by decide, wl_Game, (tk_2 180 (by decide +kernel) rfl)⟩
theorem fp_Game_18 : FP "PacedMap$Game" 18 4 2 .int false := ⟨_, _, _, t_Game, rfl, by decide, wl_Game, (tk_2 180 (by decide +kernel) rfl), t_Game_ok, n_Game, rfl, rfl, (fun h => by cases h)⟩
theorem fl_Game_22 : FL "PacedMap$Game" 22 4 3 := ⟨_, _, _, rfl, by decide, wl_Game, (tk_2 181 (by decide +kernel) rfl)⟩
theorem fp_Game_22 : FP "PacedMap$Game" 22 4 3 .int false := ⟨_, _, _, t_Game, rfl, by decide, wl_Game, (tk_2 181 (by decide +kernel) rfl), t_Game_ok, n_Game, rfl, rfl, (fun h => by cases h)⟩
theorem fl_Game_25 : FL "PacedMap$Game" 25 4 4 := ⟨_, _, _, rfl, by decide, wl_Game, (tk_2 182 (by decide +kernel) rfl)⟩
theorem fp_Game_25 : FP "PacedMap$Game" 25 4 4 .int false := ⟨_, _, _, t_Game, rfl, by decide, wl_Game, (tk_2 182 (by decide +kernel) rfl), t_Game_ok, n_Game, rfl, rfl, (fun h => by cases h)⟩
theorem fl_Game_28 : FL "PacedMap$Game" 28 4 5 := ⟨_, _, _, rfl, by decide, wl_Game, (tk_2 183 (by decide +kernel) rfl)⟩
theorem fp_Game_28 : FP "PacedMap$Game" 28 4 5 .boolean false := ⟨_, _, _, t_Game, rfl, by decide, wl_Game, (tk_2 183 (by decide +kernel) rfl), t_Game_ok, n_Game, rfl, rfl, (fun h => by cases h)⟩
theorem fl_Game_38 : FL "PacedMap$Game" 38 8 10 := ⟨_, _, _, rfl, by decide, wl_Town, (tk_1 198 (by decide +kernel) rfl)⟩
theorem fl_Game_45 : FL "PacedMap$Game" 45 8 8 := ⟨_, _, _, rfl, by decide, wl_Town, (tk_1 187 (by decide +kernel) rfl)⟩
theorem fl_Game_48 : FL "PacedMap$Game" 48 8 4 := ⟨_, _, _, rfl, by decide, wl_Town, (tk_1 170 (by decide +kernel) rfl)⟩
theorem fl_Game_51 : FL "PacedMap$Game" 51 8 5 := ⟨_, _, _, rfl, by decide, wl_Town, (tk_1 175 (by decide +kernel) rfl)⟩
theorem fl_Life_12 : FL "PacedMap$Life" 12 5 0 := ⟨_, _, _, rfl, by decide, wl_Life, (tk_2 205 (by decide +kernel) rfl)⟩
theorem fp_Life_12 : FP "PacedMap$Life" 12 5 0 (.object "PacedMap$Chart") true := ⟨_, _, _, t_Life, rfl, by decide, wl_Life, (tk_2 205 (by decide +kernel) rfl), t_Life_ok, n_Life, rfl, rfl, fun _ => rfl⟩
theorem fl_Life_18 : FL "PacedMap$Life" 18 5 1 := ⟨_, _, _, rfl, by decide, wl_Life, (tk_2 206 (by decide +kernel) rfl)⟩
theorem fp_Life_18 : FP "PacedMap$Life" 18 5 1 (.array .int) true := ⟨_, _, _, t_Life, rfl, by decide, wl_Life, (tk_2 206 (by decide +kernel) rfl), t_Life_ok, n_Life, rfl, rfl, fun _ => rfl⟩
theorem fl_Life_24 : FL "PacedMap$Life" 24 5 2 := ⟨_, _, _, rfl, by decide, wl_Life, (tk_2 208 (by decide +kernel) rfl)⟩
theorem fp_Life_24 : FP "PacedMap$Life" 24 5 2 (.array .int) true := ⟨_, _, _, t_Life, rfl, by decide, wl_Life, (tk_2 208 (by decide +kernel) rfl), t_Life_ok, n_Life, rfl, rfl, fun _ => rfl⟩
theorem fl_Life_27 : FL "PacedMap$Life" 27 5 3 := ⟨_, _, _, rfl, by decide, wl_Life, (tk_2 209 (by decide +kernel) rfl)⟩
theorem fp_Life_27 : FP "PacedMap$Life" 27 5 3 .int false := ⟨_, _, _, t_Life, rfl, by decide, wl_Life, (tk_2 209 (by decide +kernel) rfl), t_Life_ok, n_Life, rfl, rfl, (fun h => by cases h)⟩
theorem fl_Life_31 : FL "PacedMap$Life" 31 5 4 := ⟨_, _, _, rfl, by decide, wl_Life, (tk_2 211 (by decide +kernel) rfl)⟩
theorem fp_Life_31 : FP "PacedMap$Life" 31 5 4 .int false := ⟨_, _, _, t_Life, rfl, by decide, wl_Life, (tk_2 211 (by decide +kernel) rfl), t_Life_ok, n_Life, rfl, rfl, (fun h => by cases h)⟩
theorem fl_Life_41 : FL "PacedMap$Life" 41 1 4 := ⟨_, _, _, rfl, by decide, wl_Days, (tk_2 26 (by decide +kernel) rfl)⟩
theorem fl_Life_44 : FL "PacedMap$Life" 44 1 0 := ⟨_, _, _, rfl, by decide, wl_Days, (tk_2 16 (by decide +kernel) rfl)⟩
theorem fl_Life_55 : FL "PacedMap$Life" 55 1 2 := ⟨_, _, _, rfl, by decide, wl_Days, (tk_2 20 (by decide +kernel) rfl)⟩
theorem fl_Life_58 : FL "PacedMap$Life" 58 1 1 := ⟨_, _, _, rfl, by decide, wl_Days, (tk_2 18 (by decide +kernel) rfl)⟩
theorem fl_Life_89 : FL "PacedMap$Life" 89 8 9 := ⟨_, _, _, rfl, by decide, wl_Town, (tk_1 194 (by decide +kernel) rfl)⟩
theorem fl_Life_96 : FL "PacedMap$Life" 96 8 2 := ⟨_, _, _, rfl, by decide, wl_Town, (tk_1 164 (by decide +kernel) rfl)⟩
theorem fl_Life_99 : FL "PacedMap$Life" 99 8 10 := ⟨_, _, _, rfl, by decide, wl_Town, (tk_1 202 (by decide +kernel) rfl)⟩
theorem fl_Life_106 : FL "PacedMap$Life" 106 8 11 := ⟨_, _, _, rfl, by decide, wl_Town, (tk_1 207 (by decide +kernel) rfl)⟩
theorem fl_Life_109 : FL "PacedMap$Life" 109 8 12 := ⟨_, _, _, rfl, by decide, wl_Town, (tk_1 210 (by decide +kernel) rfl)⟩
theorem fl_Life_116 : FL "PacedMap$Life" 116 8 13 := ⟨_, _, _, rfl, by decide, wl_Town, (tk_1 213 (by decide +kernel) rfl)⟩
theorem fl_Life_133 : FL "PacedMap$Life" 133 8 14 := ⟨_, _, _, rfl, by decide, wl_Town, (tk_1 216 (by decide +kernel) rfl)⟩
theorem fl_Mo_7 : FL "PacedMapModel" 7 12 0 := ⟨_, _, _, rfl, by decide, wl_Mo, (tk_6 171 (by decide +kernel) rfl)⟩
theorem fp_Mo_7 : FP "PacedMapModel" 7 12 0 (.array .int) true := ⟨_, _, _, t_Mo, rfl, by decide, wl_Mo, (tk_6 171 (by decide +kernel) rfl), t_Mo_ok, n_Mo, rfl, rfl, fun _ => rfl⟩
theorem fl_Mo_13 : FL "PacedMapModel" 13 12 1 := ⟨_, _, _, rfl, by decide, wl_Mo, (tk_6 172 (by decide +kernel) rfl)⟩
theorem fp_Mo_13 : FP "PacedMapModel" 13 12 1 (.array .long) true := ⟨_, _, _, t_Mo, rfl, by decide, wl_Mo, (tk_6 172 (by decide +kernel) rfl), t_Mo_ok, n_Mo, rfl, rfl, fun _ => rfl⟩
theorem fl_Mo_17 : FL "PacedMapModel" 17 12 4 := ⟨_, _, _, rfl, by decide, wl_Mo, (tk_6 175 (by decide +kernel) rfl)⟩
theorem fp_Mo_17 : FP "PacedMapModel" 17 12 4 .long false := ⟨_, _, _, t_Mo, rfl, by decide, wl_Mo, (tk_6 175 (by decide +kernel) rfl), t_Mo_ok, n_Mo, rfl, rfl, (fun h => by cases h)⟩
theorem fl_Mo_21 : FL "PacedMapModel" 21 12 5 := ⟨_, _, _, rfl, by decide, wl_Mo, (tk_6 176 (by decide +kernel) rfl)⟩
theorem fp_Mo_21 : FP "PacedMapModel" 21 12 5 (.array .int) true := ⟨_, _, _, t_Mo, rfl, by decide, wl_Mo, (tk_6 176 (by decide +kernel) rfl), t_Mo_ok, n_Mo, rfl, rfl, fun _ => rfl⟩
theorem fl_Mo_24 : FL "PacedMapModel" 24 12 6 := ⟨_, _, _, rfl, by decide, wl_Mo, (tk_6 177 (by decide +kernel) rfl)⟩
theorem fp_Mo_24 : FP "PacedMapModel" 24 12 6 (.array .int) true := ⟨_, _, _, t_Mo, rfl, by decide, wl_Mo, (tk_6 177 (by decide +kernel) rfl), t_Mo_ok, n_Mo, rfl, rfl, fun _ => rfl⟩
theorem fl_Mo_27 : FL "PacedMapModel" 27 12 7 := ⟨_, _, _, rfl, by decide, wl_Mo, (tk_6 178 (by decide +kernel) rfl)⟩
theorem fp_Mo_27 : FP "PacedMapModel" 27 12 7 (.array .long) true := ⟨_, _, _, t_Mo, rfl, by decide, wl_Mo, (tk_6 178 (by decide +kernel) rfl), t_Mo_ok, n_Mo, rfl, rfl, fun _ => rfl⟩
theorem fl_Mo_30 : FL "PacedMapModel" 30 12 8 := ⟨_, _, _, rfl, by decide, wl_Mo, (tk_6 179 (by decide +kernel) rfl)⟩
theorem fp_Mo_30 : FP "PacedMapModel" 30 12 8 (.array .byte) true := ⟨_, _, _, t_Mo, rfl, by decide, wl_Mo, (tk_6 179 (by decide +kernel) rfl), t_Mo_ok, n_Mo, rfl, rfl, fun _ => rfl⟩
theorem fl_Mo_34 : FL "PacedMapModel" 34 12 9 := ⟨_, _, _, rfl, by decide, wl_Mo, (tk_6 180 (by decide +kernel) rfl)⟩
theorem fp_Mo_34 : FP "PacedMapModel" 34 12 9 (.array .byte) true := ⟨_, _, _, t_Mo, rfl, by decide, wl_Mo, (tk_6 180 (by decide +kernel) rfl), t_Mo_ok, n_Mo, rfl, rfl, fun _ => rfl⟩
theorem fl_Mo_37 : FL "PacedMapModel" 37 12 16 := ⟨_, _, _, rfl, by decide, wl_Mo, (tk_6 187 (by decide +kernel) rfl)⟩
theorem fp_Mo_37 : FP "PacedMapModel" 37 12 16 .int false := ⟨_, _, _, t_Mo, rfl, by decide, wl_Mo, (tk_6 187 (by decide +kernel) rfl), t_Mo_ok, n_Mo, rfl, rfl, (fun h => by cases h)⟩
theorem fl_Mo_41 : FL "PacedMapModel" 41 12 17 := ⟨_, _, _, rfl, by decide, wl_Mo, (tk_6 188 (by decide +kernel) rfl)⟩
theorem fp_Mo_41 : FP "PacedMapModel" 41 12 17 .int false := ⟨_, _, _, t_Mo, rfl, by decide, wl_Mo, (tk_6 188 (by decide +kernel) rfl), t_Mo_ok, n_Mo, rfl, rfl, (fun h => by cases h)⟩
theorem fl_Mo_44 : FL "PacedMapModel" 44 12 21 := ⟨_, _, _, rfl, by decide, wl_Mo, (tk_6 192 (by decide +kernel) rfl)⟩
theorem fp_Mo_44 : FP "PacedMapModel" 44 12 21 (.array .int) true := ⟨_, _, _, t_Mo, rfl, by decide, wl_Mo, (tk_6 192 (by decide +kernel) rfl), t_Mo_ok, n_Mo, rfl, rfl, fun _ => rfl⟩
theorem fl_Mo_47 : FL "PacedMapModel" 47 12 24 := ⟨_, _, _, rfl, by decide, wl_Mo, (tk_6 195 (by decide +kernel) rfl)⟩
theorem fp_Mo_47 : FP "PacedMapModel" 47 12 24 (.array .int) true := ⟨_, _, _, t_Mo, rfl, by decide, wl_Mo, (tk_6 195 (by decide +kernel) rfl), t_Mo_ok, n_Mo, rfl, rfl, fun _ => rfl⟩
theorem fl_Mo_50 : FL "PacedMapModel" 50 12 25 := ⟨_, _, _, rfl, by decide, wl_Mo, (tk_6 196 (by decide +kernel) rfl)⟩
theorem fp_Mo_50 : FP "PacedMapModel" 50 12 25 (.array .int) true := ⟨_, _, _, t_Mo, rfl, by decide, wl_Mo, (tk_6 196 (by decide +kernel) rfl), t_Mo_ok, n_Mo, rfl, rfl, fun _ => rfl⟩
theorem fl_Mo_53 : FL "PacedMapModel" 53 12 26 := ⟨_, _, _, rfl, by decide, wl_Mo, (tk_6 197 (by decide +kernel) rfl)⟩
theorem fp_Mo_53 : FP "PacedMapModel" 53 12 26 (.array .int) true := ⟨_, _, _, t_Mo, rfl, by decide, wl_Mo, (tk_6 197 (by decide +kernel) rfl), t_Mo_ok, n_Mo, rfl, rfl, fun _ => rfl⟩
theorem fl_Mo_56 : FL "PacedMapModel" 56 12 27 := ⟨_, _, _, rfl, by decide, wl_Mo, (tk_6 198 (by decide +kernel) rfl)⟩
theorem fp_Mo_56 : FP "PacedMapModel" 56 12 27 (.array .int) true := ⟨_, _, _, t_Mo, rfl, by decide, wl_Mo, (tk_6 198 (by decide +kernel) rfl), t_Mo_ok, n_Mo, rfl, rfl, fun _ => rfl⟩
theorem fl_Mo_59 : FL "PacedMapModel" 59 12 28 := ⟨_, _, _, rfl, by decide, wl_Mo, (tk_6 199 (by decide +kernel) rfl)⟩
theorem fp_Mo_59 : FP "PacedMapModel" 59 12 28 (.array .int) true := ⟨_, _, _, t_Mo, rfl, by decide, wl_Mo, (tk_6 199 (by decide +kernel) rfl), t_Mo_ok, n_Mo, rfl, rfl, fun _ => rfl⟩
theorem fl_Mo_62 : FL "PacedMapModel" 62 12 29 := ⟨_, _, _, rfl, by decide, wl_Mo, (tk_6 200 (by decide +kernel) rfl)⟩
theorem fp_Mo_62 : FP "PacedMapModel" 62 12 29 (.array .int) true := ⟨_, _, _, t_Mo, rfl, by decide, wl_Mo, (tk_6 200 (by decide +kernel) rfl), t_Mo_ok, n_Mo, rfl, rfl, fun _ => rfl⟩
theorem fl_Mo_65 : FL "PacedMapModel" 65 12 30 := ⟨_, _, _, rfl, by decide, wl_Mo, (tk_6 201 (by decide +kernel) rfl)⟩
theorem fp_Mo_65 : FP "PacedMapModel" 65 12 30 (.array .int) true := ⟨_, _, _, t_Mo, rfl, by decide, wl_Mo, (tk_6 201 (by decide +kernel) rfl), t_Mo_ok, n_Mo, rfl, rfl, fun _ => rfl⟩
theorem fl_Mo_68 : FL "PacedMapModel" 68 12 34 := ⟨_, _, _, rfl, by decide, wl_Mo, (tk_6 205 (by decide +kernel) rfl)⟩
theorem fp_Mo_68 : FP "PacedMapModel" 68 12 34 (.array .int) true := ⟨_, _, _, t_Mo, rfl, by decide, wl_Mo, (tk_6 205 (by decide +kernel) rfl), t_Mo_ok, n_Mo, rfl, rfl, fun _ => rfl⟩
theorem fl_Mo_71 : FL "PacedMapModel" 71 12 35 := ⟨_, _, _, rfl, by decide, wl_Mo, (tk_6 206 (by decide +kernel) rfl)⟩
theorem fp_Mo_71 : FP "PacedMapModel" 71 12 35 (.array .int) true := ⟨_, _, _, t_Mo, rfl, by decide, wl_Mo, (tk_6 206 (by decide +kernel) rfl), t_Mo_ok, n_Mo, rfl, rfl, fun _ => rfl⟩
theorem fl_Mo_74 : FL "PacedMapModel" 74 12 36 := ⟨_, _, _, rfl, by decide, wl_Mo, (tk_6 207 (by decide +kernel) rfl)⟩
theorem fp_Mo_74 : FP "PacedMapModel" 74 12 36 (.array .int) true := ⟨_, _, _, t_Mo, rfl, by decide, wl_Mo, (tk_6 207 (by decide +kernel) rfl), t_Mo_ok, n_Mo, rfl, rfl, fun _ => rfl⟩
theorem fl_Mo_77 : FL "PacedMapModel" 77 12 38 := ⟨_, _, _, rfl, by decide, wl_Mo, (tk_6 209 (by decide +kernel) rfl)⟩
theorem fp_Mo_77 : FP "PacedMapModel" 77 12 38 (.array .int) true := ⟨_, _, _, t_Mo, rfl, by decide, wl_Mo, (tk_6 209 (by decide +kernel) rfl), t_Mo_ok, n_Mo, rfl, rfl, fun _ => rfl⟩
theorem fl_Mo_80 : FL "PacedMapModel" 80 12 39 := ⟨_, _, _, rfl, by decide, wl_Mo, (tk_6 210 (by decide +kernel) rfl)⟩
theorem fp_Mo_80 : FP "PacedMapModel" 80 12 39 (.array .int) true := ⟨_, _, _, t_Mo, rfl, by decide, wl_Mo, (tk_6 210 (by decide +kernel) rfl), t_Mo_ok, n_Mo, rfl, rfl, fun _ => rfl⟩
theorem fl_Mo_83 : FL "PacedMapModel" 83 12 40 := ⟨_, _, _, rfl, by decide, wl_Mo, (tk_6 211 (by decide +kernel) rfl)⟩
theorem fp_Mo_83 : FP "PacedMapModel" 83 12 40 (.array .int) true := ⟨_, _, _, t_Mo, rfl, by decide, wl_Mo, (tk_6 211 (by decide +kernel) rfl), t_Mo_ok, n_Mo, rfl, rfl, fun _ => rfl⟩
theorem fl_Mo_86 : FL "PacedMapModel" 86 12 41 := ⟨_, _, _, rfl, by decide, wl_Mo, (tk_6 212 (by decide +kernel) rfl)⟩
theorem fp_Mo_86 : FP "PacedMapModel" 86 12 41 (.array .int) true := ⟨_, _, _, t_Mo, rfl, by decide, wl_Mo, (tk_6 212 (by decide +kernel) rfl), t_Mo_ok, n_Mo, rfl, rfl, fun _ => rfl⟩
theorem fl_Mo_89 : FL "PacedMapModel" 89 12 42 := ⟨_, _, _, rfl, by decide, wl_Mo, (tk_6 213 (by decide +kernel) rfl)⟩
theorem fp_Mo_89 : FP "PacedMapModel" 89 12 42 (.array .long) true := ⟨_, _, _, t_Mo, rfl, by decide, wl_Mo, (tk_6 213 (by decide +kernel) rfl), t_Mo_ok, n_Mo, rfl, rfl, fun _ => rfl⟩
theorem fl_Mo_92 : FL "PacedMapModel" 92 12 45 := ⟨_, _, _, rfl, by decide, wl_Mo, (tk_6 216 (by decide +kernel) rfl)⟩
theorem fp_Mo_92 : FP "PacedMapModel" 92 12 45 (.array .int) true := ⟨_, _, _, t_Mo, rfl, by decide, wl_Mo, (tk_6 216 (by decide +kernel) rfl), t_Mo_ok, n_Mo, rfl, rfl, fun _ => rfl⟩
theorem fl_Mo_95 : FL "PacedMapModel" 95 12 46 := ⟨_, _, _, rfl, by decide, wl_Mo, (tk_6 217 (by decide +kernel) rfl)⟩
theorem fp_Mo_95 : FP "PacedMapModel" 95 12 46 (.array .int) true := ⟨_, _, _, t_Mo, rfl, by decide, wl_Mo, (tk_6 217 (by decide +kernel) rfl), t_Mo_ok, n_Mo, rfl, rfl, fun _ => rfl⟩
theorem fl_Mo_98 : FL "PacedMapModel" 98 12 47 := ⟨_, _, _, rfl, by decide, wl_Mo, (tk_6 218 (by decide +kernel) rfl)⟩
theorem fp_Mo_98 : FP "PacedMapModel" 98 12 47 (.array .int) true := ⟨_, _, _, t_Mo, rfl, by decide, wl_Mo, (tk_6 218 (by decide +kernel) rfl), t_Mo_ok, n_Mo, rfl, rfl, fun _ => rfl⟩
theorem fl_Mo_105 : FL "PacedMapModel" 105 12 2 := ⟨_, _, _, rfl, by decide, wl_Mo, (tk_6 173 (by decide +kernel) rfl)⟩
theorem fp_Mo_105 : FP "PacedMapModel" 105 12 2 .int false := ⟨_, _, _, t_Mo, rfl, by decide, wl_Mo, (tk_6 173 (by decide +kernel) rfl), t_Mo_ok, n_Mo, rfl, rfl, (fun h => by cases h)⟩
theorem fl_Mo_108 : FL "PacedMapModel" 108 12 3 := ⟨_, _, _, rfl, by decide, wl_Mo, (tk_6 174 (by decide +kernel) rfl)⟩
theorem fp_Mo_108 : FP "PacedMapModel" 108 12 3 .long false := ⟨_, _, _, t_Mo, rfl, by decide, wl_Mo, (tk_6 174 (by decide +kernel) rfl), t_Mo_ok, n_Mo, rfl, rfl, (fun h => by cases h)⟩
theorem fl_Mo_135 : FL "PacedMapModel" 135 12 10 := ⟨_, _, _, rfl, by decide, wl_Mo, (tk_6 181 (by decide +kernel) rfl)⟩
theorem fp_Mo_135 : FP "PacedMapModel" 135 12 10 .int false := ⟨_, _, _, t_Mo, rfl, by decide, wl_Mo, (tk_6 181 (by decide +kernel) rfl), t_Mo_ok, n_Mo, rfl, rfl, (fun h => by cases h)⟩
theorem fl_Mo_141 : FL "PacedMapModel" 141 12 11 := ⟨_, _, _, rfl, by decide, wl_Mo, (tk_6 182 (by decide +kernel) rfl)⟩
theorem fp_Mo_141 : FP "PacedMapModel" 141 12 11 .int false := ⟨_, _, _, t_Mo, rfl, by decide, wl_Mo, (tk_6 182 (by decide +kernel) rfl), t_Mo_ok, n_Mo, rfl, rfl, (fun h => by cases h)⟩
theorem fl_Mo_144 : FL "PacedMapModel" 144 12 14 := ⟨_, _, _, rfl, by decide, wl_Mo, (tk_6 185 (by decide +kernel) rfl)⟩
theorem fp_Mo_144 : FP "PacedMapModel" 144 12 14 .int false := ⟨_, _, _, t_Mo, rfl, by decide, wl_Mo, (tk_6 185 (by decide +kernel) rfl), t_Mo_ok, n_Mo, rfl, rfl, (fun h => by cases h)⟩
theorem fl_Mo_150 : FL "PacedMapModel" 150 12 13 := ⟨_, _, _, rfl, by decide, wl_Mo, (tk_6 184 (by decide +kernel) rfl)⟩
theorem fp_Mo_150 : FP "PacedMapModel" 150 12 13 .int false := ⟨_, _, _, t_Mo, rfl, by decide, wl_Mo, (tk_6 184 (by decide +kernel) rfl), t_Mo_ok, n_Mo, rfl, rfl, (fun h => by cases h)⟩
theorem fl_Mo_153 : FL "PacedMapModel" 153 12 15 := ⟨_, _, _, rfl, by decide, wl_Mo, (tk_6 186 (by decide +kernel) rfl)⟩
theorem fp_Mo_153 : FP "PacedMapModel" 153 12 15 .int false := ⟨_, _, _, t_Mo, rfl, by decide, wl_Mo, (tk_6 186 (by decide +kernel) rfl), t_Mo_ok, n_Mo, rfl, rfl, (fun h => by cases h)⟩
theorem fl_Mo_156 : FL "PacedMapModel" 156 12 12 := ⟨_, _, _, rfl, by decide, wl_Mo, (tk_6 183 (by decide +kernel) rfl)⟩
theorem fp_Mo_156 : FP "PacedMapModel" 156 12 12 .int false := ⟨_, _, _, t_Mo, rfl, by decide, wl_Mo, (tk_6 183 (by decide +kernel) rfl), t_Mo_ok, n_Mo, rfl, rfl, (fun h => by cases h)⟩
theorem fl_Mo_181 : FL "PacedMapModel" 181 12 18 := ⟨_, _, _, rfl, by decide, wl_Mo, (tk_6 189 (by decide +kernel) rfl)⟩
theorem fp_Mo_181 : FP "PacedMapModel" 181 12 18 .int false := ⟨_, _, _, t_Mo, rfl, by decide, wl_Mo, (tk_6 189 (by decide +kernel) rfl), t_Mo_ok, n_Mo, rfl, rfl, (fun h => by cases h)⟩
theorem fp_Mo_184 : FP "PacedMapModel" 184 12 19 .int false := ⟨_, _, _, t_Mo, rfl, by decide, wl_Mo, (tk_6 190 (by decide +kernel) rfl), t_Mo_ok, n_Mo, rfl, rfl, (fun h => by cases h)⟩
theorem fl_Mo_249 : FL "PacedMapModel" 249 12 20 := ⟨_, _, _, rfl, by decide, wl_Mo, (tk_6 191 (by decide +kernel) rfl)⟩
theorem fp_Mo_249 : FP "PacedMapModel" 249 12 20 .boolean false := ⟨_, _, _, t_Mo, rfl, by decide, wl_Mo, (tk_6 191 (by decide +kernel) rfl), t_Mo_ok, n_Mo, rfl, rfl, (fun h => by cases h)⟩
theorem fl_Mo_266 : FL "PacedMapModel" 266 12 22 := ⟨_, _, _, rfl, by decide, wl_Mo, (tk_6 193 (by decide +kernel) rfl)⟩
theorem fp_Mo_266 : FP "PacedMapModel" 266 12 22 .int false := ⟨_, _, _, t_Mo, rfl, by decide, wl_Mo, (tk_6 193 (by decide +kernel) rfl), t_Mo_ok, n_Mo, rfl, rfl, (fun h => by cases h)⟩
theorem fl_Mo_269 : FL "PacedMapModel" 269 12 23 := ⟨_, _, _, rfl, by decide, wl_Mo, (tk_6 194 (by decide +kernel) rfl)⟩
theorem fp_Mo_269 : FP "PacedMapModel" 269 12 23 .int false := ⟨_, _, _, t_Mo, rfl, by decide, wl_Mo, (tk_6 194 (by decide +kernel) rfl), t_Mo_ok, n_Mo, rfl, rfl, (fun h => by cases h)⟩
theorem fl_Mo_389 : FL "PacedMapModel" 389 12 32 := ⟨_, _, _, rfl, by decide, wl_Mo, (tk_6 203 (by decide +kernel) rfl)⟩
theorem fp_Mo_389 : FP "PacedMapModel" 389 12 32 .int false := ⟨_, _, _, t_Mo, rfl, by decide, wl_Mo, (tk_6 203 (by decide +kernel) rfl), t_Mo_ok, n_Mo, rfl, rfl, (fun h => by cases h)⟩
theorem fl_Mo_392 : FL "PacedMapModel" 392 12 33 := ⟨_, _, _, rfl, by decide, wl_Mo, (tk_6 204 (by decide +kernel) rfl)⟩
theorem fp_Mo_392 : FP "PacedMapModel" 392 12 33 .int false := ⟨_, _, _, t_Mo, rfl, by decide, wl_Mo, (tk_6 204 (by decide +kernel) rfl), t_Mo_ok, n_Mo, rfl, rfl, (fun h => by cases h)⟩
theorem fl_Mo_395 : FL "PacedMapModel" 395 12 31 := ⟨_, _, _, rfl, by decide, wl_Mo, (tk_6 202 (by decide +kernel) rfl)⟩
theorem fp_Mo_395 : FP "PacedMapModel" 395 12 31 .int false := ⟨_, _, _, t_Mo, rfl, by decide, wl_Mo, (tk_6 202 (by decide +kernel) rfl), t_Mo_ok, n_Mo, rfl, rfl, (fun h => by cases h)⟩
theorem fl_Mo_431 : FL "PacedMapModel" 431 12 37 := ⟨_, _, _, rfl, by decide, wl_Mo, (tk_6 208 (by decide +kernel) rfl)⟩
theorem fp_Mo_431 : FP "PacedMapModel" 431 12 37 .int false := ⟨_, _, _, t_Mo, rfl, by decide, wl_Mo, (tk_6 208 (by decide +kernel) rfl), t_Mo_ok, n_Mo, rfl, rfl, (fun h => by cases h)⟩
theorem fl_Mo_456 : FL "PacedMapModel" 456 12 43 := ⟨_, _, _, rfl, by decide, wl_Mo, (tk_6 214 (by decide +kernel) rfl)⟩
theorem fp_Mo_456 : FP "PacedMapModel" 456 12 43 .int false := ⟨_, _, _, t_Mo, rfl, by decide, wl_Mo, (tk_6 214 (by decide +kernel) rfl), t_Mo_ok, n_Mo, rfl, rfl, (fun h => by cases h)⟩
theorem fl_Mo_473 : FL "PacedMapModel" 473 12 44 := ⟨_, _, _, rfl, by decide, wl_Mo, (tk_6 215 (by decide +kernel) rfl)⟩
theorem fp_Mo_473 : FP "PacedMapModel" 473 12 44 .int false := ⟨_, _, _, t_Mo, rfl, by decide, wl_Mo, (tk_6 215 (by decide +kernel) rfl), t_Mo_ok, n_Mo, rfl, rfl, (fun h => by cases h)⟩
theorem fl_Mo_490 : FL "PacedMapModel" 490 12 48 := ⟨_, _, _, rfl, by decide, wl_Mo, (tk_6 219 (by decide +kernel) rfl)⟩
theorem fp_Mo_490 : FP "PacedMapModel" 490 12 48 .boolean false := ⟨_, _, _, t_Mo, rfl, by decide, wl_Mo, (tk_6 219 (by decide +kernel) rfl), t_Mo_ok, n_Mo, rfl, rfl, (fun h => by cases h)⟩
theorem fl_Mo_499 : FL "PacedMapModel" 499 12 49 := ⟨_, _, _, rfl, by decide, wl_Mo, (tk_6 220 (by decide +kernel) rfl)⟩
theorem fp_Mo_499 : FP "PacedMapModel" 499 12 49 .int false := ⟨_, _, _, t_Mo, rfl, by decide, wl_Mo, (tk_6 220 (by decide +kernel) rfl), t_Mo_ok, n_Mo, rfl, rfl, (fun h => by cases h)⟩
theorem fl_PM_11 : FL "PacedMap" 11 11 0 := ⟨_, _, _, rfl, by decide, wl_PM, (tk_3 5 (by decide +kernel) rfl)⟩
theorem fp_PM_11 : FP "PacedMap" 11 11 0 (.array (.object "PacedMap$Tray")) true := ⟨_, _, _, t_PM, rfl, by decide, wl_PM, (tk_3 5 (by decide +kernel) rfl), t_PM_ok, n_PM, rfl, rfl, fun _ => rfl⟩
theorem fl_PM_18 : FL "PacedMap" 18 11 1 := ⟨_, _, _, rfl, by decide, wl_PM, (tk_3 6 (by decide +kernel) rfl)⟩
theorem fp_PM_18 : FP "PacedMap" 18 11 1 (.object "PacedMap$Text") true := ⟨_, _, _, t_PM, rfl, by decide, wl_PM, (tk_3 6 (by decide +kernel) rfl), t_PM_ok, n_PM, rfl, rfl, fun _ => rfl⟩
theorem fl_PM_25 : FL "PacedMap" 25 11 2 := ⟨_, _, _, rfl, by decide, wl_PM, (tk_3 7 (by decide +kernel) rfl)⟩
theorem fp_PM_25 : FP "PacedMap" 25 11 2 (.object "PacedMap$Town") true := ⟨_, _, _, t_PM, rfl, by decide, wl_PM, (tk_3 7 (by decide +kernel) rfl), t_PM_ok, n_PM, rfl, rfl, fun _ => rfl⟩
theorem fl_PM_29 : FL "PacedMap" 29 11 3 := ⟨_, _, _, rfl, by decide, wl_PM, (tk_3 8 (by decide +kernel) rfl)⟩
theorem fp_PM_29 : FP "PacedMap" 29 11 3 (.object "PacedMap$Town") true := ⟨_, _, _, t_PM, rfl, by decide, wl_PM, (tk_3 8 (by decide +kernel) rfl), t_PM_ok, n_PM, rfl, rfl, fun _ => rfl⟩
theorem fl_PM_35 : FL "PacedMap" 35 11 4 := ⟨_, _, _, rfl, by decide, wl_PM, (tk_3 9 (by decide +kernel) rfl)⟩
theorem fp_PM_35 : FP "PacedMap" 35 11 4 (.object "PacedMap$Days") true := ⟨_, _, _, t_PM, rfl, by decide, wl_PM, (tk_3 9 (by decide +kernel) rfl), t_PM_ok, n_PM, rfl, rfl, fun _ => rfl⟩
theorem fl_PM_39 : FL "PacedMap" 39 11 5 := ⟨_, _, _, rfl, by decide, wl_PM, (tk_3 10 (by decide +kernel) rfl)⟩
theorem fp_PM_39 : FP "PacedMap" 39 11 5 (.object "PacedMap$Days") true := ⟨_, _, _, t_PM, rfl, by decide, wl_PM, (tk_3 10 (by decide +kernel) rfl), t_PM_ok, n_PM, rfl, rfl, fun _ => rfl⟩
theorem fl_PM_42 : FL "PacedMap" 42 11 6 := ⟨_, _, _, rfl, by decide, wl_PM, (tk_3 11 (by decide +kernel) rfl)⟩
theorem fp_PM_42 : FP "PacedMap" 42 11 6 (.array (.object "PacedMap$Town")) true := ⟨_, _, _, t_PM, rfl, by decide, wl_PM, (tk_3 11 (by decide +kernel) rfl), t_PM_ok, n_PM, rfl, rfl, fun _ => rfl⟩
theorem fl_PM_46 : FL "PacedMap" 46 11 7 := ⟨_, _, _, rfl, by decide, wl_PM, (tk_3 12 (by decide +kernel) rfl)⟩
theorem fp_PM_46 : FP "PacedMap" 46 11 7 (.array (.object "PacedMap$Days")) true := ⟨_, _, _, t_PM, rfl, by decide, wl_PM, (tk_3 12 (by decide +kernel) rfl), t_PM_ok, n_PM, rfl, rfl, fun _ => rfl⟩
theorem fl_PM_53 : FL "PacedMap" 53 11 8 := ⟨_, _, _, rfl, by decide, wl_PM, (tk_3 13 (by decide +kernel) rfl)⟩
theorem fp_PM_53 : FP "PacedMap" 53 11 8 (.object "PacedMap$Chart") true := ⟨_, _, _, t_PM, rfl, by decide, wl_PM, (tk_3 13 (by decide +kernel) rfl), t_PM_ok, n_PM, rfl, rfl, fun _ => rfl⟩
theorem fl_PM_60 : FL "PacedMap" 60 11 9 := ⟨_, _, _, rfl, by decide, wl_PM, (tk_3 14 (by decide +kernel) rfl)⟩
theorem fp_PM_60 : FP "PacedMap" 60 11 9 (.object "PacedMap$Doubts") true := ⟨_, _, _, t_PM, rfl, by decide, wl_PM, (tk_3 14 (by decide +kernel) rfl), t_PM_ok, n_PM, rfl, rfl, fun _ => rfl⟩
theorem fl_PM_67 : FL "PacedMap" 67 11 10 := ⟨_, _, _, rfl, by decide, wl_PM, (tk_3 15 (by decide +kernel) rfl)⟩
theorem fp_PM_67 : FP "PacedMap" 67 11 10 (.object "PacedMap$Paths") true := ⟨_, _, _, t_PM, rfl, by decide, wl_PM, (tk_3 15 (by decide +kernel) rfl), t_PM_ok, n_PM, rfl, rfl, fun _ => rfl⟩
theorem fl_PM_74 : FL "PacedMap" 74 11 11 := ⟨_, _, _, rfl, by decide, wl_PM, (tk_3 16 (by decide +kernel) rfl)⟩
theorem fp_PM_74 : FP "PacedMap" 74 11 11 (.object "PacedMap$Game") true := ⟨_, _, _, t_PM, rfl, by decide, wl_PM, (tk_3 16 (by decide +kernel) rfl), t_PM_ok, n_PM, rfl, rfl, fun _ => rfl⟩
theorem fl_PM_81 : FL "PacedMap" 81 11 12 := ⟨_, _, _, rfl, by decide, wl_PM, (tk_3 17 (by decide +kernel) rfl)⟩
theorem fp_PM_81 : FP "PacedMap" 81 11 12 (.object "PacedMap$Life") true := ⟨_, _, _, t_PM, rfl, by decide, wl_PM, (tk_3 17 (by decide +kernel) rfl), t_PM_ok, n_PM, rfl, rfl, fun _ => rfl⟩
theorem fl_PM_85 : FL "PacedMap" 85 11 13 := ⟨_, _, _, rfl, by decide, wl_PM, (tk_3 18 (by decide +kernel) rfl)⟩
theorem fp_PM_85 : FP "PacedMap" 85 11 13 (.array .int) true := ⟨_, _, _, t_PM, rfl, by decide, wl_PM, (tk_3 18 (by decide +kernel) rfl), t_PM_ok, n_PM, rfl, rfl, fun _ => rfl⟩
theorem fl_PM_89 : FL "PacedMap" 89 11 14 := ⟨_, _, _, rfl, by decide, wl_PM, (tk_3 19 (by decide +kernel) rfl)⟩
theorem fp_PM_89 : FP "PacedMap" 89 11 14 .boolean false := ⟨_, _, _, t_PM, rfl, by decide, wl_PM, (tk_3 19 (by decide +kernel) rfl), t_PM_ok, n_PM, rfl, rfl, (fun h => by cases h)⟩
theorem fl_PM_93 : FL "PacedMap" 93 11 15 := ⟨_, _, _, rfl, by decide, wl_PM, (tk_3 20 (by decide +kernel) rfl)⟩
theorem fp_PM_93 : FP "PacedMap" 93 11 15 .int false := ⟨_, _, _, t_PM, rfl, by decide, wl_PM, (tk_3 20 (by decide +kernel) rfl), t_PM_ok, n_PM, rfl, rfl, (fun h => by cases h)⟩
theorem fl_PM_97 : FL "PacedMap" 97 11 16 := ⟨_, _, _, rfl, by decide, wl_PM, (tk_3 21 (by decide +kernel) rfl)⟩
theorem fp_PM_97 : FP "PacedMap" 97 11 16 .int false := ⟨_, _, _, t_PM, rfl, by decide, wl_PM, (tk_3 21 (by decide +kernel) rfl), t_PM_ok, n_PM, rfl, rfl, (fun h => by cases h)⟩
theorem fl_PM_100 : FL "PacedMap" 100 11 17 := ⟨_, _, _, rfl, by decide, wl_PM, (tk_3 22 (by decide +kernel) rfl)⟩
theorem fp_PM_100 : FP "PacedMap" 100 11 17 .long false := ⟨_, _, _, t_PM, rfl, by decide, wl_PM, (tk_3 22 (by decide +kernel) rfl), t_PM_ok, n_PM, rfl, rfl, (fun h => by cases h)⟩
theorem fl_PM_104 : FL "PacedMap" 104 11 18 := ⟨_, _, _, rfl, by decide, wl_PM, (tk_3 23 (by decide +kernel) rfl)⟩
theorem fp_PM_104 : FP "PacedMap" 104 11 18 .long false := ⟨_, _, _, t_PM, rfl, by decide, wl_PM, (tk_3 23 (by decide +kernel) rfl), t_PM_ok, n_PM, rfl, rfl, (fun h => by cases h)⟩
theorem fl_PM_136 : FL "PacedMap" 136 10 0 := ⟨_, _, _, rfl, by decide, wl_Tray, (tk_2 229 (by decide +kernel) rfl)⟩
theorem fl_PM_140 : FL "PacedMap" 140 10 1 := ⟨_, _, _, rfl, by decide, wl_Tray, (tk_2 231 (by decide +kernel) rfl)⟩
theorem fl_PM_143 : FL "PacedMap" 143 10 2 := ⟨_, _, _, rfl, by decide, wl_Tray, (tk_2 233 (by decide +kernel) rfl)⟩
theorem fl_PM_155 : FL "PacedMap" 155 7 5 := ⟨_, _, _, rfl, by decide, wl_Text, (tk_1 97 (by decide +kernel) rfl)⟩
theorem fl_PM_179 : FL "PacedMap" 179 8 10 := ⟨_, _, _, rfl, by decide, wl_Town, (tk_1 204 (by decide +kernel) rfl)⟩
theorem fl_PM_194 : FL "PacedMap" 194 1 5 := ⟨_, _, _, rfl, by decide, wl_Days, (tk_2 30 (by decide +kernel) rfl)⟩
theorem fl_PM_197 : FL "PacedMap" 197 7 14 := ⟨_, _, _, rfl, by decide, wl_Text, (tk_1 115 (by decide +kernel) rfl)⟩
theorem fl_PM_200 : FL "PacedMap" 200 7 15 := ⟨_, _, _, rfl, by decide, wl_Text, (tk_1 117 (by decide +kernel) rfl)⟩
theorem fl_PM_203 : FL "PacedMap" 203 8 8 := ⟨_, _, _, rfl, by decide, wl_Town, (tk_1 191 (by decide +kernel) rfl)⟩
theorem fl_PM_206 : FL "PacedMap" 206 8 9 := ⟨_, _, _, rfl, by decide, wl_Town, (tk_1 196 (by decide +kernel) rfl)⟩
theorem fl_PM_209 : FL "PacedMap" 209 8 11 := ⟨_, _, _, rfl, by decide, wl_Town, (tk_1 208 (by decide +kernel) rfl)⟩
theorem fp_PM_209 : FP "PacedMap" 209 8 11 .int false := ⟨_, _, _, t_Town, rfl, by decide, wl_Town, (tk_1 208 (by decide +kernel) rfl), t_Town_ok, n_Town, rfl, rfl, (fun h => by cases h)⟩
theorem fl_PM_212 : FL "PacedMap" 212 8 13 := ⟨_, _, _, rfl, by decide, wl_Town, (tk_1 214 (by decide +kernel) rfl)⟩
theorem fl_PM_215 : FL "PacedMap" 215 8 14 := ⟨_, _, _, rfl, by decide, wl_Town, (tk_1 217 (by decide +kernel) rfl)⟩
theorem fl_PM_218 : FL "PacedMap" 218 8 12 := ⟨_, _, _, rfl, by decide, wl_Town, (tk_1 211 (by decide +kernel) rfl)⟩
theorem fl_PM_224 : FL "PacedMap" 224 8 2 := ⟨_, _, _, rfl, by decide, wl_Town, (tk_1 165 (by decide +kernel) rfl)⟩
theorem fl_PM_239 : FL "PacedMap" 239 8 3 := ⟨_, _, _, rfl, by decide, wl_Town, (tk_1 168 (by decide +kernel) rfl)⟩
theorem fl_PM_242 : FL "PacedMap" 242 8 4 := ⟨_, _, _, rfl, by decide, wl_Town, (tk_1 173 (by decide +kernel) rfl)⟩
theorem fl_PM_245 : FL "PacedMap" 245 8 5 := ⟨_, _, _, rfl, by decide, wl_Town, (tk_1 178 (by decide +kernel) rfl)⟩
theorem fl_PM_248 : FL "PacedMap" 248 8 6 := ⟨_, _, _, rfl, by decide, wl_Town, (tk_1 181 (by decide +kernel) rfl)⟩
theorem fl_PM_251 : FL "PacedMap" 251 8 7 := ⟨_, _, _, rfl, by decide, wl_Town, (tk_1 184 (by decide +kernel) rfl)⟩
theorem fl_PM_274 : FL "PacedMap" 274 0 2 := ⟨_, _, _, rfl, by decide, wl_Chart, (tk_2 56 (by decide +kernel) rfl)⟩
theorem fl_PM_277 : FL "PacedMap" 277 0 3 := ⟨_, _, _, rfl, by decide, wl_Chart, (tk_2 59 (by decide +kernel) rfl)⟩
theorem fl_PM_327 : FL "PacedMap" 327 3 6 := ⟨_, _, _, rfl, by decide, wl_Doubts, (tk_2 101 (by decide +kernel) rfl)⟩
theorem fl_PM_336 : FL "PacedMap" 336 3 9 := ⟨_, _, _, rfl, by decide, wl_Doubts, (tk_2 105 (by decide +kernel) rfl)⟩
theorem fl_PM_356 : FL "PacedMap" 356 3 12 := ⟨_, _, _, rfl, by decide, wl_Doubts, (tk_2 109 (by decide +kernel) rfl)⟩
theorem fl_PM_359 : FL "PacedMap" 359 3 13 := ⟨_, _, _, rfl, by decide, wl_Doubts, (tk_2 111 (by decide +kernel) rfl)⟩
theorem fl_PM_366 : FL "PacedMap" 366 6 5 := ⟨_, _, _, rfl, by decide, wl_Paths, (tk_2 154 (by decide +kernel) rfl)⟩
theorem fl_PM_369 : FL "PacedMap" 369 6 6 := ⟨_, _, _, rfl, by decide, wl_Paths, (tk_2 156 (by decide +kernel) rfl)⟩
theorem fl_PM_372 : FL "PacedMap" 372 6 2 := ⟨_, _, _, rfl, by decide, wl_Paths, (tk_2 150 (by decide +kernel) rfl)⟩
theorem fl_PM_410 : FL "PacedMap" 410 1 3 := ⟨_, _, _, rfl, by decide, wl_Days, (tk_2 24 (by decide +kernel) rfl)⟩
theorem fl_PM_415 : FL "PacedMap" 415 5 1 := ⟨_, _, _, rfl, by decide, wl_Life, (tk_2 207 (by decide +kernel) rfl)⟩
theorem fl_PM_418 : FL "PacedMap" 418 5 3 := ⟨_, _, _, rfl, by decide, wl_Life, (tk_2 210 (by decide +kernel) rfl)⟩
theorem fl_PM_423 : FL "PacedMap" 423 10 3 := ⟨_, _, _, rfl, by decide, wl_Tray, (tk_2 235 (by decide +kernel) rfl)⟩
theorem fl_PM_427 : FL "PacedMap" 427 0 8 := ⟨_, _, _, rfl, by decide, wl_Chart, (tk_2 65 (by decide +kernel) rfl)⟩
theorem fl_Paths_9 : FL "PacedMap$Paths" 9 6 0 := ⟨_, _, _, rfl, by decide, wl_Paths, (tk_2 147 (by decide +kernel) rfl)⟩
theorem fp_Paths_9 : FP "PacedMap$Paths" 9 6 0 (.array .int) true := ⟨_, _, _, t_Paths, rfl, by decide, wl_Paths, (tk_2 147 (by decide +kernel) rfl), t_Paths_ok, n_Paths, rfl, rfl, fun _ => rfl⟩
theorem fl_Paths_15 : FL "PacedMap$Paths" 15 6 1 := ⟨_, _, _, rfl, by decide, wl_Paths, (tk_2 148 (by decide +kernel) rfl)⟩
theorem fp_Paths_15 : FP "PacedMap$Paths" 15 6 1 (.array .int) true := ⟨_, _, _, t_Paths, rfl, by decide, wl_Paths, (tk_2 148 (by decide +kernel) rfl), t_Paths_ok, n_Paths, rfl, rfl, fun _ => rfl⟩
theorem fl_Paths_18 : FL "PacedMap$Paths" 18 6 2 := ⟨_, _, _, rfl, by decide, wl_Paths, (tk_2 149 (by decide +kernel) rfl)⟩
theorem fp_Paths_18 : FP "PacedMap$Paths" 18 6 2 (.array .int) true := ⟨_, _, _, t_Paths, rfl, by decide, wl_Paths, (tk_2 149 (by decide +kernel) rfl), t_Paths_ok, n_Paths, rfl, rfl, fun _ => rfl⟩
theorem fl_Paths_21 : FL "PacedMap$Paths" 21 6 3 := ⟨_, _, _, rfl, by decide, wl_Paths, (tk_2 151 (by decide +kernel) rfl)⟩
theorem fp_Paths_21 : FP "PacedMap$Paths" 21 6 3 .int false := ⟨_, _, _, t_Paths, rfl, by decide, wl_Paths, (tk_2 151 (by decide +kernel) rfl), t_Paths_ok, n_Paths, rfl, rfl, (fun h => by cases h)⟩
theorem fl_Paths_25 : FL "PacedMap$Paths" 25 6 4 := ⟨_, _, _, rfl, by decide, wl_Paths, (tk_2 152 (by decide +kernel) rfl)⟩
theorem fp_Paths_25 : FP "PacedMap$Paths" 25 6 4 .int false := ⟨_, _, _, t_Paths, rfl, by decide, wl_Paths, (tk_2 152 (by decide +kernel) rfl), t_Paths_ok, n_Paths, rfl, rfl, (fun h => by cases h)⟩
theorem fl_Paths_28 : FL "PacedMap$Paths" 28 6 5 := ⟨_, _, _, rfl, by decide, wl_Paths, (tk_2 153 (by decide +kernel) rfl)⟩
theorem fp_Paths_28 : FP "PacedMap$Paths" 28 6 5 .int false := ⟨_, _, _, t_Paths, rfl, by decide, wl_Paths, (tk_2 153 (by decide +kernel) rfl), t_Paths_ok, n_Paths, rfl, rfl, (fun h => by cases h)⟩
theorem fl_Paths_31 : FL "PacedMap$Paths" 31 6 6 := ⟨_, _, _, rfl, by decide, wl_Paths, (tk_2 155 (by decide +kernel) rfl)⟩
theorem fp_Paths_31 : FP "PacedMap$Paths" 31 6 6 .int false := ⟨_, _, _, t_Paths, rfl, by decide, wl_Paths, (tk_2 155 (by decide +kernel) rfl), t_Paths_ok, n_Paths, rfl, rfl, (fun h => by cases h)⟩
theorem fl_Paths_38 : FL "PacedMap$Paths" 38 8 8 := ⟨_, _, _, rfl, by decide, wl_Town, (tk_1 186 (by decide +kernel) rfl)⟩
theorem fl_Paths_51 : FL "PacedMap$Paths" 51 8 10 := ⟨_, _, _, rfl, by decide, wl_Town, (tk_1 201 (by decide +kernel) rfl)⟩
theorem fl_Paths_66 : FL "PacedMap$Paths" 66 8 4 := ⟨_, _, _, rfl, by decide, wl_Town, (tk_1 171 (by decide +kernel) rfl)⟩
theorem fl_Paths_69 : FL "PacedMap$Paths" 69 8 5 := ⟨_, _, _, rfl, by decide, wl_Town, (tk_1 176 (by decide +kernel) rfl)⟩
theorem fl_Text_9 : FL "PacedMap$Text" 9 7 0 := ⟨_, _, _, rfl, by decide, wl_Text, (tk_1 91 (by decide +kernel) rfl)⟩
theorem fp_Text_9 : FP "PacedMap$Text" 9 7 0 (.array .byte) true := ⟨_, _, _, t_Text, rfl, by decide, wl_Text, (tk_1 91 (by decide +kernel) rfl), t_Text_ok, n_Text, rfl, rfl, fun _ => rfl⟩
theorem fl_Text_15 : FL "PacedMap$Text" 15 7 1 := ⟨_, _, _, rfl, by decide, wl_Text, (tk_1 92 (by decide +kernel) rfl)⟩
theorem fp_Text_15 : FP "PacedMap$Text" 15 7 1 (.array .long) true := ⟨_, _, _, t_Text, rfl, by decide, wl_Text, (tk_1 92 (by decide +kernel) rfl), t_Text_ok, n_Text, rfl, rfl, fun _ => rfl⟩
theorem fl_Text_19 : FL "PacedMap$Text" 19 7 2 := ⟨_, _, _, rfl, by decide, wl_Text, (tk_1 93 (by decide +kernel) rfl)⟩
theorem fp_Text_19 : FP "PacedMap$Text" 19 7 2 (.array .int) true := ⟨_, _, _, t_Text, rfl, by decide, wl_Text, (tk_1 93 (by decide +kernel) rfl), t_Text_ok, n_Text, rfl, rfl, fun _ => rfl⟩
theorem fl_Text_23 : FL "PacedMap$Text" 23 7 3 := ⟨_, _, _, rfl, by decide, wl_Text, (tk_1 94 (by decide +kernel) rfl)⟩
theorem fp_Text_23 : FP "PacedMap$Text" 23 7 3 (.array .int) true := ⟨_, _, _, t_Text, rfl, by decide, wl_Text, (tk_1 94 (by decide +kernel) rfl), t_Text_ok, n_Text, rfl, rfl, fun _ => rfl⟩
theorem fl_Text_26 : FL "PacedMap$Text" 26 7 4 := ⟨_, _, _, rfl, by decide, wl_Text, (tk_1 95 (by decide +kernel) rfl)⟩
theorem fp_Text_26 : FP "PacedMap$Text" 26 7 4 (.array .long) true := ⟨_, _, _, t_Text, rfl, by decide, wl_Text, (tk_1 95 (by decide +kernel) rfl), t_Text_ok, n_Text, rfl, rfl, fun _ => rfl⟩
theorem fl_Text_29 : FL "PacedMap$Text" 29 7 5 := ⟨_, _, _, rfl, by decide, wl_Text, (tk_1 96 (by decide +kernel) rfl)⟩
theorem fp_Text_29 : FP "PacedMap$Text" 29 7 5 .int false := ⟨_, _, _, t_Text, rfl, by decide, wl_Text, (tk_1 96 (by decide +kernel) rfl), t_Text_ok, n_Text, rfl, rfl, (fun h => by cases h)⟩
theorem fl_Text_33 : FL "PacedMap$Text" 33 7 6 := ⟨_, _, _, rfl, by decide, wl_Text, (tk_1 98 (by decide +kernel) rfl)⟩
theorem fp_Text_33 : FP "PacedMap$Text" 33 7 6 .int false := ⟨_, _, _, t_Text, rfl, by decide, wl_Text, (tk_1 98 (by decide +kernel) rfl), t_Text_ok, n_Text, rfl, rfl, (fun h => by cases h)⟩
theorem fl_Text_36 : FL "PacedMap$Text" 36 7 7 := ⟨_, _, _, rfl, by decide, wl_Text, (tk_1 99 (by decide +kernel) rfl)⟩
theorem fp_Text_36 : FP "PacedMap$Text" 36 7 7 .int false := ⟨_, _, _, t_Text, rfl, by decide, wl_Text, (tk_1 99 (by decide +kernel) rfl), t_Text_ok, n_Text, rfl, rfl, (fun h => by cases h)⟩
theorem fl_Text_39 : FL "PacedMap$Text" 39 7 8 := ⟨_, _, _, rfl, by decide, wl_Text, (tk_1 100 (by decide +kernel) rfl)⟩
theorem fp_Text_39 : FP "PacedMap$Text" 39 7 8 .int false := ⟨_, _, _, t_Text, rfl, by decide, wl_Text, (tk_1 100 (by decide +kernel) rfl), t_Text_ok, n_Text, rfl, rfl, (fun h => by cases h)⟩
theorem fl_Text_42 : FL "PacedMap$Text" 42 7 9 := ⟨_, _, _, rfl, by decide, wl_Text, (tk_1 101 (by decide +kernel) rfl)⟩
theorem fp_Text_42 : FP "PacedMap$Text" 42 7 9 .int false := ⟨_, _, _, t_Text, rfl, by decide, wl_Text, (tk_1 101 (by decide +kernel) rfl), t_Text_ok, n_Text, rfl, rfl, (fun h => by cases h)⟩
theorem fl_Text_45 : FL "PacedMap$Text" 45 7 10 := ⟨_, _, _, rfl, by decide, wl_Text, (tk_1 103 (by decide +kernel) rfl)⟩
theorem fp_Text_45 : FP "PacedMap$Text" 45 7 10 .int false := ⟨_, _, _, t_Text, rfl, by decide, wl_Text, (tk_1 103 (by decide +kernel) rfl), t_Text_ok, n_Text, rfl, rfl, (fun h => by cases h)⟩
theorem fp_Text_48 : FP "PacedMap$Text" 48 7 11 .int false := ⟨_, _, _, t_Text, rfl, by decide, wl_Text, (tk_1 105 (by decide +kernel) rfl), t_Text_ok, n_Text, rfl, rfl, (fun h => by cases h)⟩
theorem fp_Text_51 : FP "PacedMap$Text" 51 7 12 .int false := ⟨_, _, _, t_Text, rfl, by decide, wl_Text, (tk_1 108 (by decide +kernel) rfl), t_Text_ok, n_Text, rfl, rfl, (fun h => by cases h)⟩
theorem fp_Text_54 : FP "PacedMap$Text" 54 7 13 .long false := ⟨_, _, _, t_Text, rfl, by decide, wl_Text, (tk_1 111 (by decide +kernel) rfl), t_Text_ok, n_Text, rfl, rfl, (fun h => by cases h)⟩
theorem fp_Text_58 : FP "PacedMap$Text" 58 7 14 .int false := ⟨_, _, _, t_Text, rfl, by decide, wl_Text, (tk_1 114 (by decide +kernel) rfl), t_Text_ok, n_Text, rfl, rfl, (fun h => by cases h)⟩
theorem fp_Text_61 : FP "PacedMap$Text" 61 7 15 .int false := ⟨_, _, _, t_Text, rfl, by decide, wl_Text, (tk_1 116 (by decide +kernel) rfl), t_Text_ok, n_Text, rfl, rfl, (fun h => by cases h)⟩
theorem fl_Town_9 : FL "PacedMap$Town" 9 8 0 := ⟨_, _, _, rfl, by decide, wl_Town, (tk_1 160 (by decide +kernel) rfl)⟩
theorem fp_Town_9 : FP "PacedMap$Town" 9 8 0 (.array .long) true := ⟨_, _, _, t_Town, rfl, by decide, wl_Town, (tk_1 160 (by decide +kernel) rfl), t_Town_ok, n_Town, rfl, rfl, fun _ => rfl⟩
theorem fl_Town_15 : FL "PacedMap$Town" 15 8 1 := ⟨_, _, _, rfl, by decide, wl_Town, (tk_1 161 (by decide +kernel) rfl)⟩
theorem fp_Town_15 : FP "PacedMap$Town" 15 8 1 (.array .long) true := ⟨_, _, _, t_Town, rfl, by decide, wl_Town, (tk_1 161 (by decide +kernel) rfl), t_Town_ok, n_Town, rfl, rfl, fun _ => rfl⟩
theorem fl_Town_18 : FL "PacedMap$Town" 18 8 2 := ⟨_, _, _, rfl, by decide, wl_Town, (tk_1 162 (by decide +kernel) rfl)⟩
theorem fp_Town_18 : FP "PacedMap$Town" 18 8 2 (.array .int) true := ⟨_, _, _, t_Town, rfl, by decide, wl_Town, (tk_1 162 (by decide +kernel) rfl), t_Town_ok, n_Town, rfl, rfl, fun _ => rfl⟩
theorem fl_Town_22 : FL "PacedMap$Town" 22 8 3 := ⟨_, _, _, rfl, by decide, wl_Town, (tk_1 166 (by decide +kernel) rfl)⟩
theorem fp_Town_22 : FP "PacedMap$Town" 22 8 3 (.array .int) true := ⟨_, _, _, t_Town, rfl, by decide, wl_Town, (tk_1 166 (by decide +kernel) rfl), t_Town_ok, n_Town, rfl, rfl, fun _ => rfl⟩
theorem fl_Town_25 : FL "PacedMap$Town" 25 8 4 := ⟨_, _, _, rfl, by decide, wl_Town, (tk_1 169 (by decide +kernel) rfl)⟩
theorem fp_Town_25 : FP "PacedMap$Town" 25 8 4 (.array .int) true := ⟨_, _, _, t_Town, rfl, by decide, wl_Town, (tk_1 169 (by decide +kernel) rfl), t_Town_ok, n_Town, rfl, rfl, fun _ => rfl⟩
theorem fl_Town_28 : FL "PacedMap$Town" 28 8 5 := ⟨_, _, _, rfl, by decide, wl_Town, (tk_1 174 (by decide +kernel) rfl)⟩
theorem fp_Town_28 : FP "PacedMap$Town" 28 8 5 (.array .int) true := ⟨_, _, _, t_Town, rfl, by decide, wl_Town, (tk_1 174 (by decide +kernel) rfl), t_Town_ok, n_Town, rfl, rfl, fun _ => rfl⟩
theorem fl_Town_31 : FL "PacedMap$Town" 31 8 6 := ⟨_, _, _, rfl, by decide, wl_Town, (tk_1 179 (by decide +kernel) rfl)⟩
theorem fp_Town_31 : FP "PacedMap$Town" 31 8 6 (.array .int) true := ⟨_, _, _, t_Town, rfl, by decide, wl_Town, (tk_1 179 (by decide +kernel) rfl), t_Town_ok, n_Town, rfl, rfl, fun _ => rfl⟩
theorem fl_Town_34 : FL "PacedMap$Town" 34 8 7 := ⟨_, _, _, rfl, by decide, wl_Town, (tk_1 182 (by decide +kernel) rfl)⟩
theorem fp_Town_34 : FP "PacedMap$Town" 34 8 7 (.array .int) true := ⟨_, _, _, t_Town, rfl, by decide, wl_Town, (tk_1 182 (by decide +kernel) rfl), t_Town_ok, n_Town, rfl, rfl, fun _ => rfl⟩
theorem fl_Town_37 : FL "PacedMap$Town" 37 8 8 := ⟨_, _, _, rfl, by decide, wl_Town, (tk_1 185 (by decide +kernel) rfl)⟩
theorem fp_Town_37 : FP "PacedMap$Town" 37 8 8 .int false := ⟨_, _, _, t_Town, rfl, by decide, wl_Town, (tk_1 185 (by decide +kernel) rfl), t_Town_ok, n_Town, rfl, rfl, (fun h => by cases h)⟩
theorem fl_Town_41 : FL "PacedMap$Town" 41 8 9 := ⟨_, _, _, rfl, by decide, wl_Town, (tk_1 192 (by decide +kernel) rfl)⟩
theorem fp_Town_41 : FP "PacedMap$Town" 41 8 9 .int false := ⟨_, _, _, t_Town, rfl, by decide, wl_Town, (tk_1 192 (by decide +kernel) rfl), t_Town_ok, n_Town, rfl, rfl, (fun h => by cases h)⟩
theorem fl_Town_44 : FL "PacedMap$Town" 44 8 10 := ⟨_, _, _, rfl, by decide, wl_Town, (tk_1 197 (by decide +kernel) rfl)⟩
theorem fp_Town_44 : FP "PacedMap$Town" 44 8 10 .int false := ⟨_, _, _, t_Town, rfl, by decide, wl_Town, (tk_1 197 (by decide +kernel) rfl), t_Town_ok, n_Town, rfl, rfl, (fun h => by cases h)⟩
theorem fl_Town_47 : FL "PacedMap$Town" 47 8 11 := ⟨_, _, _, rfl, by decide, wl_Town, (tk_1 205 (by decide +kernel) rfl)⟩
theorem fp_Town_47 : FP "PacedMap$Town" 47 8 11 .int false := ⟨_, _, _, t_Town, rfl, by decide, wl_Town, (tk_1 205 (by decide +kernel) rfl), t_Town_ok, n_Town, rfl, rfl, (fun h => by cases h)⟩
theorem fl_Town_50 : FL "PacedMap$Town" 50 8 12 := ⟨_, _, _, rfl, by decide, wl_Town, (tk_1 209 (by decide +kernel) rfl)⟩
theorem fp_Town_50 : FP "PacedMap$Town" 50 8 12 .int false := ⟨_, _, _, t_Town, rfl, by decide, wl_Town, (tk_1 209 (by decide +kernel) rfl), t_Town_ok, n_Town, rfl, rfl, (fun h => by cases h)⟩
theorem fl_Town_53 : FL "PacedMap$Town" 53 8 13 := ⟨_, _, _, rfl, by decide, wl_Town, (tk_1 212 (by decide +kernel) rfl)⟩
theorem fp_Town_53 : FP "PacedMap$Town" 53 8 13 .int false := ⟨_, _, _, t_Town, rfl, by decide, wl_Town, (tk_1 212 (by decide +kernel) rfl), t_Town_ok, n_Town, rfl, rfl, (fun h => by cases h)⟩
theorem fl_Town_56 : FL "PacedMap$Town" 56 8 14 := ⟨_, _, _, rfl, by decide, wl_Town, (tk_1 215 (by decide +kernel) rfl)⟩
theorem fp_Town_56 : FP "PacedMap$Town" 56 8 14 .int false := ⟨_, _, _, t_Town, rfl, by decide, wl_Town, (tk_1 215 (by decide +kernel) rfl), t_Town_ok, n_Town, rfl, rfl, (fun h => by cases h)⟩
theorem fl_TownText_9 : FL "PacedMap$TownText" 9 9 2 := ⟨_, _, _, rfl, by decide, wl_TownText, (tk_3 196 (by decide +kernel) rfl)⟩
theorem fp_TownText_9 : FP "PacedMap$TownText" 9 9 2 .boolean false := ⟨_, _, _, t_TownText, rfl, by decide, wl_TownText, (tk_3 196 (by decide +kernel) rfl), t_TownText_ok, n_TownText, rfl, rfl, (fun h => by cases h)⟩
theorem fl_TownText_15 : FL "PacedMap$TownText" 15 9 0 := ⟨_, _, _, rfl, by decide, wl_TownText, (tk_3 194 (by decide +kernel) rfl)⟩
theorem fp_TownText_15 : FP "PacedMap$TownText" 15 9 0 (.object "PacedMap$Text") true := ⟨_, _, _, t_TownText, rfl, by decide, wl_TownText, (tk_3 194 (by decide +kernel) rfl), t_TownText_ok, n_TownText, rfl, rfl, fun _ => rfl⟩
theorem fl_TownText_19 : FL "PacedMap$TownText" 19 9 1 := ⟨_, _, _, rfl, by decide, wl_TownText, (tk_3 195 (by decide +kernel) rfl)⟩
theorem fp_TownText_19 : FP "PacedMap$TownText" 19 9 1 (.object "PacedMap$Town") true := ⟨_, _, _, t_TownText, rfl, by decide, wl_TownText, (tk_3 195 (by decide +kernel) rfl), t_TownText_ok, n_TownText, rfl, rfl, fun _ => rfl⟩
theorem fl_TownText_44 : FL "PacedMap$TownText" 44 7 11 := ⟨_, _, _, rfl, by decide, wl_Text, (tk_1 107 (by decide +kernel) rfl)⟩
theorem fl_TownText_70 : FL "PacedMap$TownText" 70 7 12 := ⟨_, _, _, rfl, by decide, wl_Text, (tk_1 109 (by decide +kernel) rfl)⟩
theorem fp_TownText_73 : FP "PacedMap$TownText" 73 8 11 .int false := ⟨_, _, _, t_Town, rfl, by decide, wl_Town, (tk_1 206 (by decide +kernel) rfl), t_Town_ok, n_Town, rfl, rfl, (fun h => by cases h)⟩
theorem fl_TownText_76 : FL "PacedMap$TownText" 76 8 8 := ⟨_, _, _, rfl, by decide, wl_Town, (tk_1 188 (by decide +kernel) rfl)⟩
theorem fl_TownText_82 : FL "PacedMap$TownText" 82 7 13 := ⟨_, _, _, rfl, by decide, wl_Text, (tk_1 112 (by decide +kernel) rfl)⟩
theorem fl_TownText_90 : FL "PacedMap$TownText" 90 8 9 := ⟨_, _, _, rfl, by decide, wl_Town, (tk_1 195 (by decide +kernel) rfl)⟩
theorem fl_TownText_105 : FL "PacedMap$TownText" 105 8 10 := ⟨_, _, _, rfl, by decide, wl_Town, (tk_1 203 (by decide +kernel) rfl)⟩
theorem fl_TownText_120 : FL "PacedMap$TownText" 120 8 6 := ⟨_, _, _, rfl, by decide, wl_Town, (tk_1 180 (by decide +kernel) rfl)⟩
theorem fl_TownText_128 : FL "PacedMap$TownText" 128 8 7 := ⟨_, _, _, rfl, by decide, wl_Town, (tk_1 183 (by decide +kernel) rfl)⟩
theorem fl_Tray_9 : FL "PacedMap$Tray" 9 10 0 := ⟨_, _, _, rfl, by decide, wl_Tray, (tk_2 228 (by decide +kernel) rfl)⟩
theorem fp_Tray_9 : FP "PacedMap$Tray" 9 10 0 (.array .long) true := ⟨_, _, _, t_Tray, rfl, by decide, wl_Tray, (tk_2 228 (by decide +kernel) rfl), t_Tray_ok, n_Tray, rfl, rfl, fun _ => rfl⟩
theorem fp_Tray_15 : FP "PacedMap$Tray" 15 10 1 .boolean false := ⟨_, _, _, t_Tray, rfl, by decide, wl_Tray, (tk_2 230 (by decide +kernel) rfl), t_Tray_ok, n_Tray, rfl, rfl, (fun h => by cases h)⟩
theorem fl_Tray_19 : FL "PacedMap$Tray" 19 10 2 := ⟨_, _, _, rfl, by decide, wl_Tray, (tk_2 232 (by decide +kernel) rfl)⟩
theorem fp_Tray_19 : FP "PacedMap$Tray" 19 10 2 .int false := ⟨_, _, _, t_Tray, rfl, by decide, wl_Tray, (tk_2 232 (by decide +kernel) rfl), t_Tray_ok, n_Tray, rfl, rfl, (fun h => by cases h)⟩
theorem fl_Tray_23 : FL "PacedMap$Tray" 23 10 3 := ⟨_, _, _, rfl, by decide, wl_Tray, (tk_2 234 (by decide +kernel) rfl)⟩
theorem fp_Tray_23 : FP "PacedMap$Tray" 23 10 3 .int false := ⟨_, _, _, t_Tray, rfl, by decide, wl_Tray, (tk_2 234 (by decide +kernel) rfl), t_Tray_ok, n_Tray, rfl, rfl, (fun h => by cases h)⟩

theorem sp_1 (i : Nat) {q : MethodName × Nat} (hi : lw_privs_1[i]? = some q) : Cond.selects q.1.cls q.1 q.1 ∈ TbL := List.mem_filter.mpr ⟨List.mem_append_left _ (List.mem_map.mpr ⟨q, (have h := List.mem_of_getElem? hi; List.mem_append_left _ h), rfl⟩), rfl⟩
theorem sp_2 (i : Nat) {q : MethodName × Nat} (hi : lw_privs_2[i]? = some q) : Cond.selects q.1.cls q.1 q.1 ∈ TbL := List.mem_filter.mpr ⟨List.mem_append_left _ (List.mem_map.mpr ⟨q, (have h := List.mem_of_getElem? hi; List.mem_append_right _ (List.mem_append_left _ h)), rfl⟩), rfl⟩
theorem sp_3 (i : Nat) {q : MethodName × Nat} (hi : lw_privs_3[i]? = some q) : Cond.selects q.1.cls q.1 q.1 ∈ TbL := List.mem_filter.mpr ⟨List.mem_append_left _ (List.mem_map.mpr ⟨q, (have h := List.mem_of_getElem? hi; List.mem_append_right _ (List.mem_append_right _ (List.mem_append_left _ h))), rfl⟩), rfl⟩
theorem sp_4 (i : Nat) {q : MethodName × Nat} (hi : lw_privs_4[i]? = some q) : Cond.selects q.1.cls q.1 q.1 ∈ TbL := List.mem_filter.mpr ⟨List.mem_append_left _ (List.mem_map.mpr ⟨q, (have h := List.mem_of_getElem? hi; List.mem_append_right _ (List.mem_append_right _ (List.mem_append_right _ (List.mem_append_left _ h)))), rfl⟩), rfl⟩
theorem sp_5 (i : Nat) {q : MethodName × Nat} (hi : lw_privs_5[i]? = some q) : Cond.selects q.1.cls q.1 q.1 ∈ TbL := List.mem_filter.mpr ⟨List.mem_append_left _ (List.mem_map.mpr ⟨q, (have h := List.mem_of_getElem? hi; List.mem_append_right _ (List.mem_append_right _ (List.mem_append_right _ (List.mem_append_right _ (List.mem_append_left _ h))))), rfl⟩), rfl⟩
theorem sp_6 (i : Nat) {q : MethodName × Nat} (hi : lw_privs_6[i]? = some q) : Cond.selects q.1.cls q.1 q.1 ∈ TbL := List.mem_filter.mpr ⟨List.mem_append_left _ (List.mem_map.mpr ⟨q, (have h := List.mem_of_getElem? hi; List.mem_append_right _ (List.mem_append_right _ (List.mem_append_right _ (List.mem_append_right _ (List.mem_append_right _ (List.mem_append_left _ h)))))), rfl⟩), rfl⟩
theorem sp_7 (i : Nat) {q : MethodName × Nat} (hi : lw_privs_7[i]? = some q) : Cond.selects q.1.cls q.1 q.1 ∈ TbL := List.mem_filter.mpr ⟨List.mem_append_left _ (List.mem_map.mpr ⟨q, (have h := List.mem_of_getElem? hi; List.mem_append_right _ (List.mem_append_right _ (List.mem_append_right _ (List.mem_append_right _ (List.mem_append_right _ (List.mem_append_right _ (List.mem_append_left _ h))))))), rfl⟩), rfl⟩
theorem sp_8 (i : Nat) {q : MethodName × Nat} (hi : lw_privs_8[i]? = some q) : Cond.selects q.1.cls q.1 q.1 ∈ TbL := List.mem_filter.mpr ⟨List.mem_append_left _ (List.mem_map.mpr ⟨q, (have h := List.mem_of_getElem? hi; List.mem_append_right _ (List.mem_append_right _ (List.mem_append_right _ (List.mem_append_right _ (List.mem_append_right _ (List.mem_append_right _ (List.mem_append_right _ (List.mem_append_left _ h)))))))), rfl⟩), rfl⟩
theorem sp_9 (i : Nat) {q : MethodName × Nat} (hi : lw_privs_9[i]? = some q) : Cond.selects q.1.cls q.1 q.1 ∈ TbL := List.mem_filter.mpr ⟨List.mem_append_left _ (List.mem_map.mpr ⟨q, (have h := List.mem_of_getElem? hi; List.mem_append_right _ (List.mem_append_right _ (List.mem_append_right _ (List.mem_append_right _ (List.mem_append_right _ (List.mem_append_right _ (List.mem_append_right _ (List.mem_append_right _ (h))))))))), rfl⟩), rfl⟩
theorem mb_Chart_init : MLb M_Chart_init 0 := ⟨tk_2 50 rfl rfl, (tk_1 9 (by decide +kernel) rfl), ⟨by decide +kernel, by decide +kernel⟩, by decide +kernel, by decide⟩
theorem mi_Chart_init : MLi M_Chart_init 0 := ⟨mb_Chart_init, (tk_2 49 (by decide +kernel) rfl), rfl, rfl⟩
theorem mb_Chart_draw : MLb M_Chart_draw 1 := ⟨tk_4 180 rfl rfl, (tk_1 9 (by decide +kernel) rfl), ⟨by decide +kernel, by decide +kernel⟩, by decide +kernel, by decide⟩
theorem mv_Chart_draw : MLv M_Chart_draw 1 := ⟨mb_Chart_draw, (tk_4 178 (by decide +kernel) rfl), (tk_4 179 (by decide +kernel) rfl)⟩
theorem mb_Chart_measure : MLb M_Chart_measure 1 := ⟨tk_4 184 rfl rfl, (tk_1 9 (by decide +kernel) rfl), ⟨by decide +kernel, by decide +kernel⟩, by decide +kernel, by decide⟩
theorem mv_Chart_measure : MLv M_Chart_measure 1 := ⟨mb_Chart_measure, (tk_4 182 (by decide +kernel) rfl), (tk_4 183 (by decide +kernel) rfl)⟩
theorem mb_Chart_measureBy : MLb M_Chart_measureBy 3 := ⟨tk_5 178 rfl rfl, (tk_1 9 (by decide +kernel) rfl), ⟨by decide +kernel, by decide +kernel⟩, by decide +kernel, by decide⟩
theorem mv_Chart_measureBy : MLv M_Chart_measureBy 3 := ⟨mb_Chart_measureBy, (tk_5 176 (by decide +kernel) rfl), (tk_5 177 (by decide +kernel) rfl)⟩
theorem mb_Chart_trace : MLb M_Chart_trace 2 := ⟨tk_4 209 rfl rfl, (tk_1 9 (by decide +kernel) rfl), ⟨by decide +kernel, by decide +kernel⟩, by decide +kernel, by decide⟩
theorem mv_Chart_trace : MLv M_Chart_trace 2 := ⟨mb_Chart_trace, (tk_4 207 (by decide +kernel) rfl), (tk_4 208 (by decide +kernel) rfl)⟩
theorem mb_Chart_firstUnlaid : MLb M_Chart_firstUnlaid 1 := ⟨tk_4 223 rfl rfl, (tk_1 9 (by decide +kernel) rfl), ⟨by decide +kernel, by decide +kernel⟩, by decide +kernel, by decide⟩
theorem mv_Chart_firstUnlaid : MLv M_Chart_firstUnlaid 1 := ⟨mb_Chart_firstUnlaid, (tk_4 222 (by decide +kernel) rfl), (sp_3 0 (q := (⟨"PacedMap$Chart", "firstUnlaid", "(LPacedMap$Town;)I"⟩, 9)) rfl)⟩
theorem mb_Chart_firstLaying : MLb M_Chart_firstLaying 2 := ⟨tk_4 216 rfl rfl, (tk_1 9 (by decide +kernel) rfl), ⟨by decide +kernel, by decide +kernel⟩, by decide +kernel, by decide⟩
theorem mv_Chart_firstLaying : MLv M_Chart_firstLaying 2 := ⟨mb_Chart_firstLaying, (tk_4 215 (by decide +kernel) rfl), (sp_2 15 (q := (⟨"PacedMap$Chart", "firstLaying", "(LPacedMap$Town;I)I"⟩, 9)) rfl)⟩
theorem mb_Chart_lay : MLb M_Chart_lay 1 := ⟨tk_4 227 rfl rfl, (tk_1 9 (by decide +kernel) rfl), ⟨by decide +kernel, by decide +kernel⟩, by decide +kernel, by decide⟩
theorem mv_Chart_lay : MLv M_Chart_lay 1 := ⟨mb_Chart_lay, (tk_4 225 (by decide +kernel) rfl), (tk_4 226 (by decide +kernel) rfl)⟩
theorem mb_Chart_lies : MLb M_Chart_lies 1 := ⟨tk_4 235 rfl rfl, (tk_1 9 (by decide +kernel) rfl), ⟨by decide +kernel, by decide +kernel⟩, by decide +kernel, by decide⟩
theorem mv_Chart_lies : MLv M_Chart_lies 1 := ⟨mb_Chart_lies, (tk_4 233 (by decide +kernel) rfl), (tk_4 234 (by decide +kernel) rfl)⟩
theorem mb_Chart_sameParts : MLb M_Chart_sameParts 2 := ⟨tk_5 30 rfl rfl, (tk_1 9 (by decide +kernel) rfl), ⟨by decide +kernel, by decide +kernel⟩, by decide +kernel, by decide⟩
theorem mv_Chart_sameParts : MLv M_Chart_sameParts 2 := ⟨mb_Chart_sameParts, (tk_5 28 (by decide +kernel) rfl), (tk_5 29 (by decide +kernel) rfl)⟩
theorem mb_Chart_liesSet : MLb M_Chart_liesSet 1 := ⟨tk_4 231 rfl rfl, (tk_1 9 (by decide +kernel) rfl), ⟨by decide +kernel, by decide +kernel⟩, by decide +kernel, by decide⟩
theorem mv_Chart_liesSet : MLv M_Chart_liesSet 1 := ⟨mb_Chart_liesSet, (tk_4 229 (by decide +kernel) rfl), (tk_4 230 (by decide +kernel) rfl)⟩
theorem mb_Chart_canMiss : MLb M_Chart_canMiss 2 := ⟨tk_5 4 rfl rfl, (tk_1 9 (by decide +kernel) rfl), ⟨by decide +kernel, by decide +kernel⟩, by decide +kernel, by decide⟩
theorem mv_Chart_canMiss : MLv M_Chart_canMiss 2 := ⟨mb_Chart_canMiss, (tk_5 2 (by decide +kernel) rfl), (tk_5 3 (by decide +kernel) rfl)⟩
theorem mb_Chart_missOf : MLb M_Chart_missOf 2 := ⟨tk_5 8 rfl rfl, (tk_1 9 (by decide +kernel) rfl), ⟨by decide +kernel, by decide +kernel⟩, by decide +kernel, by decide⟩
theorem mv_Chart_missOf : MLv M_Chart_missOf 2 := ⟨mb_Chart_missOf, (tk_5 6 (by decide +kernel) rfl), (tk_5 7 (by decide +kernel) rfl)⟩
theorem mb_Chart_missSet : MLb M_Chart_missSet 1 := ⟨tk_5 0 rfl rfl, (tk_1 9 (by decide +kernel) rfl), ⟨by decide +kernel, by decide +kernel⟩, by decide +kernel, by decide⟩
theorem mv_Chart_missSet : MLv M_Chart_missSet 1 := ⟨mb_Chart_missSet, (tk_4 238 (by decide +kernel) rfl), (tk_4 239 (by decide +kernel) rfl)⟩
theorem mb_Chart_closes : MLb M_Chart_closes 2 := ⟨tk_5 22 rfl rfl, (tk_1 9 (by decide +kernel) rfl), ⟨by decide +kernel, by decide +kernel⟩, by decide +kernel, by decide⟩
theorem mv_Chart_closes : MLv M_Chart_closes 2 := ⟨mb_Chart_closes, (tk_5 20 (by decide +kernel) rfl), (tk_5 21 (by decide +kernel) rfl)⟩
theorem mb_Chart_bridges : MLb M_Chart_bridges 1 := ⟨tk_5 26 rfl rfl, (tk_1 9 (by decide +kernel) rfl), ⟨by decide +kernel, by decide +kernel⟩, by decide +kernel, by decide⟩
theorem mv_Chart_bridges : MLv M_Chart_bridges 1 := ⟨mb_Chart_bridges, (tk_5 24 (by decide +kernel) rfl), (tk_5 25 (by decide +kernel) rfl)⟩
theorem mb_Days_init : MLb M_Days_init 0 := ⟨tk_2 13 rfl rfl, (tk_1 8 (by decide +kernel) rfl), ⟨by decide +kernel, by decide +kernel⟩, by decide +kernel, by decide⟩
theorem mi_Days_init : MLi M_Days_init 0 := ⟨mb_Days_init, (tk_2 12 (by decide +kernel) rfl), rfl, rfl⟩
theorem mb_Days_clear : MLb M_Days_clear 0 := ⟨tk_4 75 rfl rfl, (tk_1 8 (by decide +kernel) rfl), ⟨by decide +kernel, by decide +kernel⟩, by decide +kernel, by decide⟩
theorem mv_Days_clear : MLv M_Days_clear 0 := ⟨mb_Days_clear, (tk_4 73 (by decide +kernel) rfl), (tk_4 74 (by decide +kernel) rfl)⟩
theorem mb_Days_copyFrom : MLb M_Days_copyFrom 1 := ⟨tk_4 163 rfl rfl, (tk_1 8 (by decide +kernel) rfl), ⟨by decide +kernel, by decide +kernel⟩, by decide +kernel, by decide⟩
theorem mv_Days_copyFrom : MLv M_Days_copyFrom 1 := ⟨mb_Days_copyFrom, (tk_4 161 (by decide +kernel) rfl), (tk_4 162 (by decide +kernel) rfl)⟩
theorem mb_Days_addRow : MLb M_Days_addRow 3 := ⟨tk_4 120 rfl rfl, (tk_1 8 (by decide +kernel) rfl), ⟨by decide +kernel, by decide +kernel⟩, by decide +kernel, by decide⟩
theorem mv_Days_addRow : MLv M_Days_addRow 3 := ⟨mb_Days_addRow, (tk_4 118 (by decide +kernel) rfl), (tk_4 119 (by decide +kernel) rfl)⟩
theorem mb_DaysText_init : MLb M_DaysText_init 3 := ⟨tk_4 88 rfl rfl, (tk_1 20 (by decide +kernel) rfl), ⟨by decide +kernel, by decide +kernel⟩, by decide +kernel, by decide⟩
theorem mi_DaysText_init : MLi M_DaysText_init 3 := ⟨mb_DaysText_init, (tk_4 87 (by decide +kernel) rfl), rfl, rfl⟩
theorem mb_DaysText_parse : MLb M_DaysText_parse 0 := ⟨tk_4 109 rfl rfl, (tk_1 20 (by decide +kernel) rfl), ⟨by decide +kernel, by decide +kernel⟩, by decide +kernel, by decide⟩
theorem mv_DaysText_parse : MLv M_DaysText_parse 0 := ⟨mb_DaysText_parse, (tk_4 107 (by decide +kernel) rfl), (tk_4 108 (by decide +kernel) rfl)⟩
theorem mb_DaysText_takeEnd : MLb M_DaysText_takeEnd 0 := ⟨tk_4 116 rfl rfl, (tk_1 20 (by decide +kernel) rfl), ⟨by decide +kernel, by decide +kernel⟩, by decide +kernel, by decide⟩
theorem mv_DaysText_takeEnd : MLv M_DaysText_takeEnd 0 := ⟨mb_DaysText_takeEnd, (tk_4 115 (by decide +kernel) rfl), (sp_2 6 (q := (⟨"PacedMap$DaysText", "takeEnd", "()Z"⟩, 5)) rfl)⟩
theorem mb_DaysText_takeStep : MLb M_DaysText_takeStep 0 := ⟨tk_4 125 rfl rfl, (tk_1 20 (by decide +kernel) rfl), ⟨by decide +kernel, by decide +kernel⟩, by decide +kernel, by decide⟩
theorem mv_DaysText_takeStep : MLv M_DaysText_takeStep 0 := ⟨mb_DaysText_takeStep, (tk_4 124 (by decide +kernel) rfl), (sp_2 7 (q := (⟨"PacedMap$DaysText", "takeStep", "()Z"⟩, 5)) rfl)⟩
theorem mb_DaysText_isStep : MLb M_DaysText_isStep 1 := ⟨tk_4 128 rfl rfl, (tk_1 20 (by decide +kernel) rfl), ⟨by decide +kernel, by decide +kernel⟩, by decide +kernel, by decide⟩
theorem ms_DaysText_isStep : MLs M_DaysText_isStep 1 := ⟨mb_DaysText_isStep, (tk_4 127 (by decide +kernel) rfl)⟩
theorem mb_DaysText_openRow : MLb M_DaysText_openRow 0 := ⟨tk_4 144 rfl rfl, (tk_1 20 (by decide +kernel) rfl), ⟨by decide +kernel, by decide +kernel⟩, by decide +kernel, by decide⟩
theorem mv_DaysText_openRow : MLv M_DaysText_openRow 0 := ⟨mb_DaysText_openRow, (tk_4 143 (by decide +kernel) rfl), (sp_2 10 (q := (⟨"PacedMap$DaysText", "openRow", "()V"⟩, 5)) rfl)⟩
theorem mb_DaysText_takeNumberRow : MLb M_DaysText_takeNumberRow 3 := ⟨tk_4 133 rfl rfl, (tk_1 20 (by decide +kernel) rfl), ⟨by decide +kernel, by decide +kernel⟩, by decide +kernel, by decide⟩
theorem mv_DaysText_takeNumberRow : MLv M_DaysText_takeNumberRow 3 := ⟨mb_DaysText_takeNumberRow, (tk_4 132 (by decide +kernel) rfl), (sp_2 8 (q := (⟨"PacedMap$DaysText", "takeNumberRow", "(III)Z"⟩, 5)) rfl)⟩
theorem mb_DaysText_takeBelieve : MLb M_DaysText_takeBelieve 0 := ⟨tk_4 138 rfl rfl, (tk_1 20 (by decide +kernel) rfl), ⟨by decide +kernel, by decide +kernel⟩, by decide +kernel, by decide⟩
theorem mv_DaysText_takeBelieve : MLv M_DaysText_takeBelieve 0 := ⟨mb_DaysText_takeBelieve, (tk_4 137 (by decide +kernel) rfl), (sp_2 9 (q := (⟨"PacedMap$DaysText", "takeBelieve", "()Z"⟩, 5)) rfl)⟩
theorem mb_DaysText_takeTest : MLb M_DaysText_takeTest 0 := ⟨tk_4 149 rfl rfl, (tk_1 20 (by decide +kernel) rfl), ⟨by decide +kernel, by decide +kernel⟩, by decide +kernel, by decide⟩
theorem mv_DaysText_takeTest : MLv M_DaysText_takeTest 0 := ⟨mb_DaysText_takeTest, (tk_4 148 (by decide +kernel) rfl), (sp_2 11 (q := (⟨"PacedMap$DaysText", "takeTest", "()Z"⟩, 5)) rfl)⟩
theorem mb_DaysText_comparisonHere : MLb M_DaysText_comparisonHere 0 := ⟨tk_4 158 rfl rfl, (tk_1 20 (by decide +kernel) rfl), ⟨by decide +kernel, by decide +kernel⟩, by decide +kernel, by decide⟩
theorem mv_DaysText_comparisonHere : MLv M_DaysText_comparisonHere 0 := ⟨mb_DaysText_comparisonHere, (tk_4 157 (by decide +kernel) rfl), (sp_2 13 (q := (⟨"PacedMap$DaysText", "comparisonHere", "()I"⟩, 5)) rfl)⟩
theorem mb_DaysText_takeAt : MLb M_DaysText_takeAt 0 := ⟨tk_4 153 rfl rfl, (tk_1 20 (by decide +kernel) rfl), ⟨by decide +kernel, by decide +kernel⟩, by decide +kernel, by decide⟩
theorem mv_DaysText_takeAt : MLv M_DaysText_takeAt 0 := ⟨mb_DaysText_takeAt, (tk_4 152 (by decide +kernel) rfl), (sp_2 12 (q := (⟨"PacedMap$DaysText", "takeAt", "()Z"⟩, 5)) rfl)⟩
theorem mb_Doubts_init : MLb M_Doubts_init 0 := ⟨tk_2 90 rfl rfl, (tk_1 10 (by decide +kernel) rfl), ⟨by decide +kernel, by decide +kernel⟩, by decide +kernel, by decide⟩
theorem mi_Doubts_init : MLi M_Doubts_init 0 := ⟨mb_Doubts_init, (tk_2 89 (by decide +kernel) rfl), rfl, rfl⟩
theorem mb_Doubts_findOut : MLb M_Doubts_findOut 1 := ⟨tk_5 141 rfl rfl, (tk_1 10 (by decide +kernel) rfl), ⟨by decide +kernel, by decide +kernel⟩, by decide +kernel, by decide⟩
theorem mv_Doubts_findOut : MLv M_Doubts_findOut 1 := ⟨mb_Doubts_findOut, (tk_5 139 (by decide +kernel) rfl), (tk_5 140 (by decide +kernel) rfl)⟩
theorem mb_Doubts_closesWithout : MLb M_Doubts_closesWithout 2 := ⟨tk_5 148 rfl rfl, (tk_1 10 (by decide +kernel) rfl), ⟨by decide +kernel, by decide +kernel⟩, by decide +kernel, by decide⟩
theorem mv_Doubts_closesWithout : MLv M_Doubts_closesWithout 2 := ⟨mb_Doubts_closesWithout, (tk_5 147 (by decide +kernel) rfl), (sp_3 2 (q := (⟨"PacedMap$Doubts", "closesWithout", "(LPacedMap$Town;I)Z"⟩, 14)) rfl)⟩
theorem mb_Doubts_findFits : MLb M_Doubts_findFits 2 := ⟨tk_5 167 rfl rfl, (tk_1 10 (by decide +kernel) rfl), ⟨by decide +kernel, by decide +kernel⟩, by decide +kernel, by decide⟩
theorem mv_Doubts_findFits : MLv M_Doubts_findFits 2 := ⟨mb_Doubts_findFits, (tk_5 165 (by decide +kernel) rfl), (tk_5 166 (by decide +kernel) rfl)⟩
theorem mb_Doubts_pickWalkers : MLb M_Doubts_pickWalkers 2 := ⟨tk_5 172 rfl rfl, (tk_1 10 (by decide +kernel) rfl), ⟨by decide +kernel, by decide +kernel⟩, by decide +kernel, by decide⟩
theorem mv_Doubts_pickWalkers : MLv M_Doubts_pickWalkers 2 := ⟨mb_Doubts_pickWalkers, (tk_5 171 (by decide +kernel) rfl), (sp_3 4 (q := (⟨"PacedMap$Doubts", "pickWalkers", "(LPacedMap$Town;I)V"⟩, 14)) rfl)⟩
theorem mb_Doubts_keepWay : MLb M_Doubts_keepWay 2 := ⟨tk_5 182 rfl rfl, (tk_1 10 (by decide +kernel) rfl), ⟨by decide +kernel, by decide +kernel⟩, by decide +kernel, by decide⟩
theorem mv_Doubts_keepWay : MLv M_Doubts_keepWay 2 := ⟨mb_Doubts_keepWay, (tk_5 181 (by decide +kernel) rfl), (sp_3 5 (q := (⟨"PacedMap$Doubts", "keepWay", "(II)V"⟩, 14)) rfl)⟩
theorem mb_Doubts_firstOf : MLb M_Doubts_firstOf 1 := ⟨tk_5 191 rfl rfl, (tk_1 10 (by decide +kernel) rfl), ⟨by decide +kernel, by decide +kernel⟩, by decide +kernel, by decide⟩
theorem mv_Doubts_firstOf : MLv M_Doubts_firstOf 1 := ⟨mb_Doubts_firstOf, (tk_5 189 (by decide +kernel) rfl), (tk_5 190 (by decide +kernel) rfl)⟩
theorem mb_Doubts_waysWith : MLb M_Doubts_waysWith 2 := ⟨tk_5 199 rfl rfl, (tk_1 10 (by decide +kernel) rfl), ⟨by decide +kernel, by decide +kernel⟩, by decide +kernel, by decide⟩
theorem mv_Doubts_waysWith : MLv M_Doubts_waysWith 2 := ⟨mb_Doubts_waysWith, (tk_5 197 (by decide +kernel) rfl), (tk_5 198 (by decide +kernel) rfl)⟩
theorem mb_Doubts_findBestPair : MLb M_Doubts_findBestPair 1 := ⟨tk_5 214 rfl rfl, (tk_1 10 (by decide +kernel) rfl), ⟨by decide +kernel, by decide +kernel⟩, by decide +kernel, by decide⟩
theorem mv_Doubts_findBestPair : MLv M_Doubts_findBestPair 1 := ⟨mb_Doubts_findBestPair, (tk_5 212 (by decide +kernel) rfl), (tk_5 213 (by decide +kernel) rfl)⟩
theorem mb_Doubts_mostAlike : MLb M_Doubts_mostAlike 2 := ⟨tk_5 219 rfl rfl, (tk_1 10 (by decide +kernel) rfl), ⟨by decide +kernel, by decide +kernel⟩, by decide +kernel, by decide⟩
theorem mv_Doubts_mostAlike : MLv M_Doubts_mostAlike 2 := ⟨mb_Doubts_mostAlike, (tk_5 218 (by decide +kernel) rfl), (sp_3 7 (q := (⟨"PacedMap$Doubts", "mostAlike", "(II)I"⟩, 14)) rfl)⟩
theorem mb_Doubts_slotOf : MLb M_Doubts_slotOf 1 := ⟨tk_5 223 rfl rfl, (tk_1 10 (by decide +kernel) rfl), ⟨by decide +kernel, by decide +kernel⟩, by decide +kernel, by decide⟩
theorem mv_Doubts_slotOf : MLv M_Doubts_slotOf 1 := ⟨mb_Doubts_slotOf, (tk_5 222 (by decide +kernel) rfl), (sp_3 8 (q := (⟨"PacedMap$Doubts", "slotOf", "(I)I"⟩, 14)) rfl)⟩
theorem mb_Game_init : MLb M_Game_init 0 := ⟨tk_2 176 rfl rfl, (tk_1 12 (by decide +kernel) rfl), ⟨by decide +kernel, by decide +kernel⟩, by decide +kernel, by decide⟩
theorem mi_Game_init : MLi M_Game_init 0 := ⟨mb_Game_init, (tk_2 175 (by decide +kernel) rfl), rfl, rfl⟩
theorem mb_Game_begin : MLb M_Game_begin 2 := ⟨tk_6 44 rfl rfl, (tk_1 12 (by decide +kernel) rfl), ⟨by decide +kernel, by decide +kernel⟩, by decide +kernel, by decide⟩
theorem mv_Game_begin : MLv M_Game_begin 2 := ⟨mb_Game_begin, (tk_6 42 (by decide +kernel) rfl), (tk_6 43 (by decide +kernel) rfl)⟩
theorem mb_Game_endOfBestPlay : MLb M_Game_endOfBestPlay 0 := ⟨tk_6 50 rfl rfl, (tk_1 12 (by decide +kernel) rfl), ⟨by decide +kernel, by decide +kernel⟩, by decide +kernel, by decide⟩
theorem mv_Game_endOfBestPlay : MLv M_Game_endOfBestPlay 0 := ⟨mb_Game_endOfBestPlay, (tk_6 48 (by decide +kernel) rfl), (tk_6 49 (by decide +kernel) rfl)⟩
theorem mb_Game_firstBestLeg : MLb M_Game_firstBestLeg 0 := ⟨tk_6 74 rfl rfl, (tk_1 12 (by decide +kernel) rfl), ⟨by decide +kernel, by decide +kernel⟩, by decide +kernel, by decide⟩
theorem mv_Game_firstBestLeg : MLv M_Game_firstBestLeg 0 := ⟨mb_Game_firstBestLeg, (tk_6 72 (by decide +kernel) rfl), (tk_6 73 (by decide +kernel) rfl)⟩
theorem mb_Game_worth : MLb M_Game_worth 2 := ⟨tk_6 54 rfl rfl, (tk_1 12 (by decide +kernel) rfl), ⟨by decide +kernel, by decide +kernel⟩, by decide +kernel, by decide⟩
theorem mv_Game_worth : MLv M_Game_worth 2 := ⟨mb_Game_worth, (tk_6 53 (by decide +kernel) rfl), (sp_3 15 (q := (⟨"PacedMap$Game", "worth", "(II)I"⟩, 6)) rfl)⟩
theorem mb_Game_bestMove : MLb M_Game_bestMove 2 := ⟨tk_6 64 rfl rfl, (tk_1 12 (by decide +kernel) rfl), ⟨by decide +kernel, by decide +kernel⟩, by decide +kernel, by decide⟩
theorem mv_Game_bestMove : MLv M_Game_bestMove 2 := ⟨mb_Game_bestMove, (tk_6 63 (by decide +kernel) rfl), (sp_4 1 (q := (⟨"PacedMap$Game", "bestMove", "(II)I"⟩, 6)) rfl)⟩
theorem mb_Game_reached : MLb M_Game_reached 1 := ⟨tk_6 58 rfl rfl, (tk_1 12 (by decide +kernel) rfl), ⟨by decide +kernel, by decide +kernel⟩, by decide +kernel, by decide⟩
theorem mv_Game_reached : MLv M_Game_reached 1 := ⟨mb_Game_reached, (tk_6 57 (by decide +kernel) rfl), (sp_4 0 (q := (⟨"PacedMap$Game", "reached", "(I)I"⟩, 6)) rfl)⟩
theorem mb_Life_init : MLb M_Life_init 0 := ⟨tk_2 201 rfl rfl, (tk_1 13 (by decide +kernel) rfl), ⟨by decide +kernel, by decide +kernel⟩, by decide +kernel, by decide⟩
theorem mi_Life_init : MLi M_Life_init 0 := ⟨mb_Life_init, (tk_2 200 (by decide +kernel) rfl), rfl, rfl⟩
theorem mb_Life_run : MLb M_Life_run 3 := ⟨tk_6 104 rfl rfl, (tk_1 13 (by decide +kernel) rfl), ⟨by decide +kernel, by decide +kernel⟩, by decide +kernel, by decide⟩
theorem mv_Life_run : MLv M_Life_run 3 := ⟨mb_Life_run, (tk_6 102 (by decide +kernel) rfl), (tk_6 103 (by decide +kernel) rfl)⟩
theorem mb_Life_behindEnd : MLb M_Life_behindEnd 2 := ⟨tk_6 110 rfl rfl, (tk_1 13 (by decide +kernel) rfl), ⟨by decide +kernel, by decide +kernel⟩, by decide +kernel, by decide⟩
theorem mv_Life_behindEnd : MLv M_Life_behindEnd 2 := ⟨mb_Life_behindEnd, (tk_6 109 (by decide +kernel) rfl), (sp_4 2 (q := (⟨"PacedMap$Life", "behindEnd", "(LPacedMap$Days;I)I"⟩, 5)) rfl)⟩
theorem mb_Life_behindStep : MLb M_Life_behindStep 3 := ⟨tk_6 114 rfl rfl, (tk_1 13 (by decide +kernel) rfl), ⟨by decide +kernel, by decide +kernel⟩, by decide +kernel, by decide⟩
theorem mv_Life_behindStep : MLv M_Life_behindStep 3 := ⟨mb_Life_behindStep, (tk_6 113 (by decide +kernel) rfl), (sp_4 3 (q := (⟨"PacedMap$Life", "behindStep", "(LPacedMap$Town;LPacedMap$Days;I)I"⟩, 5)) rfl)⟩
theorem mb_Life_count : MLb M_Life_count 2 := ⟨tk_6 119 rfl rfl, (tk_1 13 (by decide +kernel) rfl), ⟨by decide +kernel, by decide +kernel⟩, by decide +kernel, by decide⟩
theorem mv_Life_count : MLv M_Life_count 2 := ⟨mb_Life_count, (tk_6 118 (by decide +kernel) rfl), (sp_4 4 (q := (⟨"PacedMap$Life", "count", "(IZ)V"⟩, 5)) rfl)⟩
theorem mb_Life_takeBelief : MLb M_Life_takeBelief 3 := ⟨tk_6 125 rfl rfl, (tk_1 13 (by decide +kernel) rfl), ⟨by decide +kernel, by decide +kernel⟩, by decide +kernel, by decide⟩
theorem mv_Life_takeBelief : MLv M_Life_takeBelief 3 := ⟨mb_Life_takeBelief, (tk_6 124 (by decide +kernel) rfl), (sp_4 5 (q := (⟨"PacedMap$Life", "takeBelief", "(LPacedMap$Town;II)V"⟩, 5)) rfl)⟩
theorem mb_Life_doAny : MLb M_Life_doAny 1 := ⟨tk_6 130 rfl rfl, (tk_1 13 (by decide +kernel) rfl), ⟨by decide +kernel, by decide +kernel⟩, by decide +kernel, by decide⟩
theorem mv_Life_doAny : MLv M_Life_doAny 1 := ⟨mb_Life_doAny, (tk_6 129 (by decide +kernel) rfl), (sp_4 6 (q := (⟨"PacedMap$Life", "doAny", "(LPacedMap$Town;)V"⟩, 5)) rfl)⟩
theorem mb_Life_draw : MLb M_Life_draw 1 := ⟨tk_6 134 rfl rfl, (tk_1 13 (by decide +kernel) rfl), ⟨by decide +kernel, by decide +kernel⟩, by decide +kernel, by decide⟩
theorem mv_Life_draw : MLv M_Life_draw 1 := ⟨mb_Life_draw, (tk_6 133 (by decide +kernel) rfl), (sp_4 7 (q := (⟨"PacedMap$Life", "draw", "(I)I"⟩, 5)) rfl)⟩
theorem mb_Life_holds : MLb M_Life_holds 3 := ⟨tk_6 140 rfl rfl, (tk_1 13 (by decide +kernel) rfl), ⟨by decide +kernel, by decide +kernel⟩, by decide +kernel, by decide⟩
theorem mv_Life_holds : MLv M_Life_holds 3 := ⟨mb_Life_holds, (tk_6 139 (by decide +kernel) rfl), (sp_4 8 (q := (⟨"PacedMap$Life", "holds", "(LPacedMap$Town;II)Z"⟩, 5)) rfl)⟩
theorem mb_Paths_init : MLb M_Paths_init 0 := ⟨tk_2 145 rfl rfl, (tk_1 11 (by decide +kernel) rfl), ⟨by decide +kernel, by decide +kernel⟩, by decide +kernel, by decide⟩
theorem mi_Paths_init : MLi M_Paths_init 0 := ⟨mb_Paths_init, (tk_2 144 (by decide +kernel) rfl), rfl, rfl⟩
theorem mb_Paths_find : MLb M_Paths_find 3 := ⟨tk_5 235 rfl rfl, (tk_1 11 (by decide +kernel) rfl), ⟨by decide +kernel, by decide +kernel⟩, by decide +kernel, by decide⟩
theorem mv_Paths_find : MLv M_Paths_find 3 := ⟨mb_Paths_find, (tk_5 233 (by decide +kernel) rfl), (tk_5 234 (by decide +kernel) rfl)⟩
theorem mb_Paths_measureAll : MLb M_Paths_measureAll 1 := ⟨tk_5 239 rfl rfl, (tk_1 11 (by decide +kernel) rfl), ⟨by decide +kernel, by decide +kernel⟩, by decide +kernel, by decide⟩
theorem mv_Paths_measureAll : MLv M_Paths_measureAll 1 := ⟨mb_Paths_measureAll, (tk_5 238 (by decide +kernel) rfl), (sp_3 9 (q := (⟨"PacedMap$Paths", "measureAll", "(LPacedMap$Town;)V"⟩, 7)) rfl)⟩
theorem mb_Paths_shorten : MLb M_Paths_shorten 2 := ⟨tk_6 7 rfl rfl, (tk_1 11 (by decide +kernel) rfl), ⟨by decide +kernel, by decide +kernel⟩, by decide +kernel, by decide⟩
theorem mv_Paths_shorten : MLv M_Paths_shorten 2 := ⟨mb_Paths_shorten, (tk_6 6 (by decide +kernel) rfl), (sp_3 10 (q := (⟨"PacedMap$Paths", "shorten", "(II)V"⟩, 7)) rfl)⟩
theorem mb_Paths_walkOn : MLb M_Paths_walkOn 3 := ⟨tk_6 11 rfl rfl, (tk_1 11 (by decide +kernel) rfl), ⟨by decide +kernel, by decide +kernel⟩, by decide +kernel, by decide⟩
theorem mv_Paths_walkOn : MLv M_Paths_walkOn 3 := ⟨mb_Paths_walkOn, (tk_6 10 (by decide +kernel) rfl), (sp_3 11 (q := (⟨"PacedMap$Paths", "walkOn", "(III)V"⟩, 7)) rfl)⟩
theorem mb_Paths_tryEachNext : MLb M_Paths_tryEachNext 3 := ⟨tk_6 16 rfl rfl, (tk_1 11 (by decide +kernel) rfl), ⟨by decide +kernel, by decide +kernel⟩, by decide +kernel, by decide⟩
theorem mv_Paths_tryEachNext : MLv M_Paths_tryEachNext 3 := ⟨mb_Paths_tryEachNext, (tk_6 15 (by decide +kernel) rfl), (sp_3 12 (q := (⟨"PacedMap$Paths", "tryEachNext", "(III)V"⟩, 7)) rfl)⟩
theorem mb_Text_init : MLb M_Text_init 0 := ⟨tk_1 36 rfl rfl, (tk_1 2 (by decide +kernel) rfl), ⟨by decide +kernel, by decide +kernel⟩, by decide +kernel, by decide⟩
theorem mi_Text_init : MLi M_Text_init 0 := ⟨mb_Text_init, (tk_1 35 (by decide +kernel) rfl), rfl, rfl⟩
theorem mb_Text_feedFour : MLb M_Text_feedFour 1 := ⟨tk_3 140 rfl rfl, (tk_1 2 (by decide +kernel) rfl), ⟨by decide +kernel, by decide +kernel⟩, by decide +kernel, by decide⟩
theorem mv_Text_feedFour : MLv M_Text_feedFour 1 := ⟨mb_Text_feedFour, (tk_3 138 (by decide +kernel) rfl), (tk_3 139 (by decide +kernel) rfl)⟩
theorem mb_Text_begin : MLb M_Text_begin 1 := ⟨tk_3 148 rfl rfl, (tk_1 2 (by decide +kernel) rfl), ⟨by decide +kernel, by decide +kernel⟩, by decide +kernel, by decide⟩
theorem mv_Text_begin : MLv M_Text_begin 1 := ⟨mb_Text_begin, (tk_3 146 (by decide +kernel) rfl), (tk_3 147 (by decide +kernel) rfl)⟩
theorem mb_Text_withLetter : MLb M_Text_withLetter 2 := ⟨tk_1 89 rfl rfl, (tk_1 2 (by decide +kernel) rfl), ⟨by decide +kernel, by decide +kernel⟩, by decide +kernel, by decide⟩
theorem ms_Text_withLetter : MLs M_Text_withLetter 2 := ⟨mb_Text_withLetter, (tk_1 88 (by decide +kernel) rfl)⟩
theorem mb_Text_isLetter : MLb M_Text_isLetter 1 := ⟨tk_3 161 rfl rfl, (tk_1 2 (by decide +kernel) rfl), ⟨by decide +kernel, by decide +kernel⟩, by decide +kernel, by decide⟩
theorem ms_Text_isLetter : MLs M_Text_isLetter 1 := ⟨mb_Text_isLetter, (tk_3 160 (by decide +kernel) rfl)⟩
theorem mb_Text_isDigit : MLb M_Text_isDigit 1 := ⟨tk_3 176 rfl rfl, (tk_1 2 (by decide +kernel) rfl), ⟨by decide +kernel, by decide +kernel⟩, by decide +kernel, by decide⟩
theorem ms_Text_isDigit : MLs M_Text_isDigit 1 := ⟨mb_Text_isDigit, (tk_3 175 (by decide +kernel) rfl)⟩
theorem mb_Text_isBlank : MLb M_Text_isBlank 1 := ⟨tk_3 154 rfl rfl, (tk_1 2 (by decide +kernel) rfl), ⟨by decide +kernel, by decide +kernel⟩, by decide +kernel, by decide⟩
theorem ms_Text_isBlank : MLs M_Text_isBlank 1 := ⟨mb_Text_isBlank, (tk_3 153 (by decide +kernel) rfl)⟩
theorem mb_Text_isSign : MLb M_Text_isSign 1 := ⟨tk_3 183 rfl rfl, (tk_1 2 (by decide +kernel) rfl), ⟨by decide +kernel, by decide +kernel⟩, by decide +kernel, by decide⟩
theorem ms_Text_isSign : MLs M_Text_isSign 1 := ⟨mb_Text_isSign, (tk_3 182 (by decide +kernel) rfl)⟩
theorem mb_Text_addToken : MLb M_Text_addToken 3 := ⟨tk_3 173 rfl rfl, (tk_1 2 (by decide +kernel) rfl), ⟨by decide +kernel, by decide +kernel⟩, by decide +kernel, by decide⟩
theorem mv_Text_addToken : MLv M_Text_addToken 3 := ⟨mb_Text_addToken, (tk_3 172 (by decide +kernel) rfl), (sp_1 8 (q := (⟨"PacedMap$Text", "addToken", "(IIJ)V"⟩, 16)) rfl)⟩
theorem mb_Text_scan : MLb M_Text_scan 1 := ⟨tk_3 158 rfl rfl, (tk_1 2 (by decide +kernel) rfl), ⟨by decide +kernel, by decide +kernel⟩, by decide +kernel, by decide⟩
theorem mv_Text_scan : MLv M_Text_scan 1 := ⟨mb_Text_scan, (tk_3 157 (by decide +kernel) rfl), (sp_1 5 (q := (⟨"PacedMap$Text", "scan", "(I)I"⟩, 16)) rfl)⟩
theorem mb_Text_scanWord : MLb M_Text_scanWord 1 := ⟨tk_3 165 rfl rfl, (tk_1 2 (by decide +kernel) rfl), ⟨by decide +kernel, by decide +kernel⟩, by decide +kernel, by decide⟩
theorem mv_Text_scanWord : MLv M_Text_scanWord 1 := ⟨mb_Text_scanWord, (tk_3 164 (by decide +kernel) rfl), (sp_1 6 (q := (⟨"PacedMap$Text", "scanWord", "(I)I"⟩, 16)) rfl)⟩
theorem mb_Text_wordOf : MLb M_Text_wordOf 1 := ⟨tk_3 169 rfl rfl, (tk_1 2 (by decide +kernel) rfl), ⟨by decide +kernel, by decide +kernel⟩, by decide +kernel, by decide⟩
theorem mv_Text_wordOf : MLv M_Text_wordOf 1 := ⟨mb_Text_wordOf, (tk_3 168 (by decide +kernel) rfl), (sp_1 7 (q := (⟨"PacedMap$Text", "wordOf", "(J)I"⟩, 16)) rfl)⟩
theorem mb_Text_scanNumber : MLb M_Text_scanNumber 1 := ⟨tk_3 180 rfl rfl, (tk_1 2 (by decide +kernel) rfl), ⟨by decide +kernel, by decide +kernel⟩, by decide +kernel, by decide⟩
theorem mv_Text_scanNumber : MLv M_Text_scanNumber 1 := ⟨mb_Text_scanNumber, (tk_3 179 (by decide +kernel) rfl), (sp_1 9 (q := (⟨"PacedMap$Text", "scanNumber", "(I)I"⟩, 16)) rfl)⟩
theorem mb_Text_look : MLb M_Text_look 0 := ⟨tk_3 187 rfl rfl, (tk_1 2 (by decide +kernel) rfl), ⟨by decide +kernel, by decide +kernel⟩, by decide +kernel, by decide⟩
theorem mv_Text_look : MLv M_Text_look 0 := ⟨mb_Text_look, (tk_3 186 (by decide +kernel) rfl), (sp_1 10 (q := (⟨"PacedMap$Text", "look", "()V"⟩, 16)) rfl)⟩
theorem mb_Text_next : MLb M_Text_next 0 := ⟨tk_3 231 rfl rfl, (tk_1 2 (by decide +kernel) rfl), ⟨by decide +kernel, by decide +kernel⟩, by decide +kernel, by decide⟩
theorem mv_Text_next : MLv M_Text_next 0 := ⟨mb_Text_next, (tk_3 229 (by decide +kernel) rfl), (tk_3 230 (by decide +kernel) rfl)⟩
theorem mb_Text_atEnd : MLb M_Text_atEnd 0 := ⟨tk_3 215 rfl rfl, (tk_1 2 (by decide +kernel) rfl), ⟨by decide +kernel, by decide +kernel⟩, by decide +kernel, by decide⟩
theorem mv_Text_atEnd : MLv M_Text_atEnd 0 := ⟨mb_Text_atEnd, (tk_3 213 (by decide +kernel) rfl), (tk_3 214 (by decide +kernel) rfl)⟩
theorem mb_Text_faultHere : MLb M_Text_faultHere 1 := ⟨tk_3 227 rfl rfl, (tk_1 2 (by decide +kernel) rfl), ⟨by decide +kernel, by decide +kernel⟩, by decide +kernel, by decide⟩
theorem mv_Text_faultHere : MLv M_Text_faultHere 1 := ⟨mb_Text_faultHere, (tk_3 225 (by decide +kernel) rfl), (tk_3 226 (by decide +kernel) rfl)⟩
theorem mb_Text_cannotStand : MLb M_Text_cannotStand 0 := ⟨tk_3 239 rfl rfl, (tk_1 2 (by decide +kernel) rfl), ⟨by decide +kernel, by decide +kernel⟩, by decide +kernel, by decide⟩
theorem mv_Text_cannotStand : MLv M_Text_cannotStand 0 := ⟨mb_Text_cannotStand, (tk_3 237 (by decide +kernel) rfl), (tk_3 238 (by decide +kernel) rfl)⟩
theorem mb_Text_takeSign : MLb M_Text_takeSign 1 := ⟨tk_4 66 rfl rfl, (tk_1 2 (by decide +kernel) rfl), ⟨by decide +kernel, by decide +kernel⟩, by decide +kernel, by decide⟩
theorem mv_Text_takeSign : MLv M_Text_takeSign 1 := ⟨mb_Text_takeSign, (tk_4 64 (by decide +kernel) rfl), (tk_4 65 (by decide +kernel) rfl)⟩
theorem mb_Text_takeNumber : MLb M_Text_takeNumber 2 := ⟨tk_3 235 rfl rfl, (tk_1 2 (by decide +kernel) rfl), ⟨by decide +kernel, by decide +kernel⟩, by decide +kernel, by decide⟩
theorem mv_Text_takeNumber : MLv M_Text_takeNumber 2 := ⟨mb_Text_takeNumber, (tk_3 233 (by decide +kernel) rfl), (tk_3 234 (by decide +kernel) rfl)⟩
theorem mb_Text_nameHere : MLb M_Text_nameHere 0 := ⟨tk_4 13 rfl rfl, (tk_1 2 (by decide +kernel) rfl), ⟨by decide +kernel, by decide +kernel⟩, by decide +kernel, by decide⟩
theorem mv_Text_nameHere : MLv M_Text_nameHere 0 := ⟨mb_Text_nameHere, (tk_4 11 (by decide +kernel) rfl), (tk_4 12 (by decide +kernel) rfl)⟩
theorem mb_Town_init : MLb M_Town_init 0 := ⟨tk_1 158 rfl rfl, (tk_1 7 (by decide +kernel) rfl), ⟨by decide +kernel, by decide +kernel⟩, by decide +kernel, by decide⟩
theorem mi_Town_init : MLi M_Town_init 0 := ⟨mb_Town_init, (tk_1 157 (by decide +kernel) rfl), rfl, rfl⟩
theorem mb_Town_clear : MLb M_Town_clear 0 := ⟨tk_3 211 rfl rfl, (tk_1 7 (by decide +kernel) rfl), ⟨by decide +kernel, by decide +kernel⟩, by decide +kernel, by decide⟩
theorem mv_Town_clear : MLv M_Town_clear 0 := ⟨mb_Town_clear, (tk_3 209 (by decide +kernel) rfl), (tk_3 210 (by decide +kernel) rfl)⟩
theorem mb_Town_copyFrom : MLb M_Town_copyFrom 1 := ⟨tk_4 70 rfl rfl, (tk_1 7 (by decide +kernel) rfl), ⟨by decide +kernel, by decide +kernel⟩, by decide +kernel, by decide⟩
theorem mv_Town_copyFrom : MLv M_Town_copyFrom 1 := ⟨mb_Town_copyFrom, (tk_4 68 (by decide +kernel) rfl), (tk_4 69 (by decide +kernel) rfl)⟩
theorem mb_Town_addPlace : MLb M_Town_addPlace 1 := ⟨tk_4 25 rfl rfl, (tk_1 7 (by decide +kernel) rfl), ⟨by decide +kernel, by decide +kernel⟩, by decide +kernel, by decide⟩
theorem mv_Town_addPlace : MLv M_Town_addPlace 1 := ⟨mb_Town_addPlace, (tk_4 23 (by decide +kernel) rfl), (tk_4 24 (by decide +kernel) rfl)⟩
theorem mb_Town_addWalker : MLb M_Town_addWalker 2 := ⟨tk_4 40 rfl rfl, (tk_1 7 (by decide +kernel) rfl), ⟨by decide +kernel, by decide +kernel⟩, by decide +kernel, by decide⟩
theorem mv_Town_addWalker : MLv M_Town_addWalker 2 := ⟨mb_Town_addWalker, (tk_4 38 (by decide +kernel) rfl), (tk_4 39 (by decide +kernel) rfl)⟩
theorem mb_Town_addLeg : MLb M_Town_addLeg 3 := ⟨tk_4 56 rfl rfl, (tk_1 7 (by decide +kernel) rfl), ⟨by decide +kernel, by decide +kernel⟩, by decide +kernel, by decide⟩
theorem mv_Town_addLeg : MLv M_Town_addLeg 3 := ⟨mb_Town_addLeg, (tk_4 54 (by decide +kernel) rfl), (tk_4 55 (by decide +kernel) rfl)⟩
theorem mb_Town_placeNamed : MLb M_Town_placeNamed 1 := ⟨tk_4 17 rfl rfl, (tk_1 7 (by decide +kernel) rfl), ⟨by decide +kernel, by decide +kernel⟩, by decide +kernel, by decide⟩
theorem mv_Town_placeNamed : MLv M_Town_placeNamed 1 := ⟨mb_Town_placeNamed, (tk_4 15 (by decide +kernel) rfl), (tk_4 16 (by decide +kernel) rfl)⟩
theorem mb_Town_walkerNamed : MLb M_Town_walkerNamed 1 := ⟨tk_4 21 rfl rfl, (tk_1 7 (by decide +kernel) rfl), ⟨by decide +kernel, by decide +kernel⟩, by decide +kernel, by decide⟩
theorem mv_Town_walkerNamed : MLv M_Town_walkerNamed 1 := ⟨mb_Town_walkerNamed, (tk_4 19 (by decide +kernel) rfl), (tk_4 20 (by decide +kernel) rfl)⟩
theorem mb_Town_legsThere : MLb M_Town_legsThere 0 := ⟨tk_4 205 rfl rfl, (tk_1 7 (by decide +kernel) rfl), ⟨by decide +kernel, by decide +kernel⟩, by decide +kernel, by decide⟩
theorem mv_Town_legsThere : MLv M_Town_legsThere 0 := ⟨mb_Town_legsThere, (tk_4 203 (by decide +kernel) rfl), (tk_4 204 (by decide +kernel) rfl)⟩
theorem mb_Town_legsToldBy : MLb M_Town_legsToldBy 1 := ⟨tk_5 41 rfl rfl, (tk_1 7 (by decide +kernel) rfl), ⟨by decide +kernel, by decide +kernel⟩, by decide +kernel, by decide⟩
theorem mv_Town_legsToldBy : MLv M_Town_legsToldBy 1 := ⟨mb_Town_legsToldBy, (tk_5 39 (by decide +kernel) rfl), (tk_5 40 (by decide +kernel) rfl)⟩
theorem mb_Town_faultOf : MLb M_Town_faultOf 3 := ⟨tk_4 36 rfl rfl, (tk_1 7 (by decide +kernel) rfl), ⟨by decide +kernel, by decide +kernel⟩, by decide +kernel, by decide⟩
theorem ms_Town_faultOf : MLs M_Town_faultOf 3 := ⟨mb_Town_faultOf, (tk_4 35 (by decide +kernel) rfl)⟩
theorem mb_Town_turnedBy : MLb M_Town_turnedBy 1 := ⟨tk_4 197 rfl rfl, (tk_1 7 (by decide +kernel) rfl), ⟨by decide +kernel, by decide +kernel⟩, by decide +kernel, by decide⟩
theorem ms_Town_turnedBy : MLs M_Town_turnedBy 1 := ⟨mb_Town_turnedBy, (tk_4 196 (by decide +kernel) rfl)⟩
theorem mb_Town_isLeft : MLb M_Town_isLeft 1 := ⟨tk_4 191 rfl rfl, (tk_1 7 (by decide +kernel) rfl), ⟨by decide +kernel, by decide +kernel⟩, by decide +kernel, by decide⟩
theorem ms_Town_isLeft : MLs M_Town_isLeft 1 := ⟨mb_Town_isLeft, (tk_4 190 (by decide +kernel) rfl)⟩
theorem mb_Town_strideBy : MLb M_Town_strideBy 1 := ⟨tk_4 194 rfl rfl, (tk_1 7 (by decide +kernel) rfl), ⟨by decide +kernel, by decide +kernel⟩, by decide +kernel, by decide⟩
theorem ms_Town_strideBy : MLs M_Town_strideBy 1 := ⟨mb_Town_strideBy, (tk_4 193 (by decide +kernel) rfl)⟩
theorem mb_Town_rightEast : MLb M_Town_rightEast 2 := ⟨tk_4 188 rfl rfl, (tk_1 7 (by decide +kernel) rfl), ⟨by decide +kernel, by decide +kernel⟩, by decide +kernel, by decide⟩
theorem mv_Town_rightEast : MLv M_Town_rightEast 2 := ⟨mb_Town_rightEast, (tk_4 186 (by decide +kernel) rfl), (tk_4 187 (by decide +kernel) rfl)⟩
theorem mb_Town_rightNorth : MLb M_Town_rightNorth 2 := ⟨tk_4 201 rfl rfl, (tk_1 7 (by decide +kernel) rfl), ⟨by decide +kernel, by decide +kernel⟩, by decide +kernel, by decide⟩
theorem mv_Town_rightNorth : MLv M_Town_rightNorth 2 := ⟨mb_Town_rightNorth, (tk_4 199 (by decide +kernel) rfl), (tk_4 200 (by decide +kernel) rfl)⟩
theorem mb_Town_yardsEast : MLb M_Town_yardsEast 1 := ⟨tk_5 49 rfl rfl, (tk_1 7 (by decide +kernel) rfl), ⟨by decide +kernel, by decide +kernel⟩, by decide +kernel, by decide⟩
theorem mv_Town_yardsEast : MLv M_Town_yardsEast 1 := ⟨mb_Town_yardsEast, (tk_5 47 (by decide +kernel) rfl), (tk_5 48 (by decide +kernel) rfl)⟩
theorem mb_Town_yardsNorth : MLb M_Town_yardsNorth 1 := ⟨tk_5 54 rfl rfl, (tk_1 7 (by decide +kernel) rfl), ⟨by decide +kernel, by decide +kernel⟩, by decide +kernel, by decide⟩
theorem mv_Town_yardsNorth : MLv M_Town_yardsNorth 1 := ⟨mb_Town_yardsNorth, (tk_5 52 (by decide +kernel) rfl), (tk_5 53 (by decide +kernel) rfl)⟩
theorem mb_Town_yardsAlong : MLb M_Town_yardsAlong 1 := ⟨tk_5 128 rfl rfl, (tk_1 7 (by decide +kernel) rfl), ⟨by decide +kernel, by decide +kernel⟩, by decide +kernel, by decide⟩
theorem mv_Town_yardsAlong : MLv M_Town_yardsAlong 1 := ⟨mb_Town_yardsAlong, (tk_5 126 (by decide +kernel) rfl), (tk_5 127 (by decide +kernel) rfl)⟩
theorem mb_Town_yardsOf : MLb M_Town_yardsOf 1 := ⟨tk_6 92 rfl rfl, (tk_1 7 (by decide +kernel) rfl), ⟨by decide +kernel, by decide +kernel⟩, by decide +kernel, by decide⟩
theorem mv_Town_yardsOf : MLv M_Town_yardsOf 1 := ⟨mb_Town_yardsOf, (tk_6 90 (by decide +kernel) rfl), (tk_6 91 (by decide +kernel) rfl)⟩
theorem mb_Town_strikeLeg : MLb M_Town_strikeLeg 1 := ⟨tk_5 97 rfl rfl, (tk_1 7 (by decide +kernel) rfl), ⟨by decide +kernel, by decide +kernel⟩, by decide +kernel, by decide⟩
theorem mv_Town_strikeLeg : MLv M_Town_strikeLeg 1 := ⟨mb_Town_strikeLeg, (tk_5 95 (by decide +kernel) rfl), (tk_5 96 (by decide +kernel) rfl)⟩
theorem mb_Town_restoreLeg : MLb M_Town_restoreLeg 1 := ⟨tk_5 107 rfl rfl, (tk_1 7 (by decide +kernel) rfl), ⟨by decide +kernel, by decide +kernel⟩, by decide +kernel, by decide⟩
theorem mv_Town_restoreLeg : MLv M_Town_restoreLeg 1 := ⟨mb_Town_restoreLeg, (tk_5 105 (by decide +kernel) rfl), (tk_5 106 (by decide +kernel) rfl)⟩
theorem mb_Town_walkAlong : MLb M_Town_walkAlong 1 := ⟨tk_5 124 rfl rfl, (tk_1 7 (by decide +kernel) rfl), ⟨by decide +kernel, by decide +kernel⟩, by decide +kernel, by decide⟩
theorem mv_Town_walkAlong : MLv M_Town_walkAlong 1 := ⟨mb_Town_walkAlong, (tk_5 122 (by decide +kernel) rfl), (tk_5 123 (by decide +kernel) rfl)⟩
theorem mb_TownText_init : MLb M_TownText_init 2 := ⟨tk_3 192 rfl rfl, (tk_1 19 (by decide +kernel) rfl), ⟨by decide +kernel, by decide +kernel⟩, by decide +kernel, by decide⟩
theorem mi_TownText_init : MLi M_TownText_init 2 := ⟨mb_TownText_init, (tk_3 191 (by decide +kernel) rfl), rfl, rfl⟩
theorem mb_TownText_parse : MLb M_TownText_parse 0 := ⟨tk_3 207 rfl rfl, (tk_1 19 (by decide +kernel) rfl), ⟨by decide +kernel, by decide +kernel⟩, by decide +kernel, by decide⟩
theorem mv_TownText_parse : MLv M_TownText_parse 0 := ⟨mb_TownText_parse, (tk_3 205 (by decide +kernel) rfl), (tk_3 206 (by decide +kernel) rfl)⟩
theorem mb_TownText_takePart : MLb M_TownText_takePart 0 := ⟨tk_3 219 rfl rfl, (tk_1 19 (by decide +kernel) rfl), ⟨by decide +kernel, by decide +kernel⟩, by decide +kernel, by decide⟩
theorem mv_TownText_takePart : MLv M_TownText_takePart 0 := ⟨mb_TownText_takePart, (tk_3 218 (by decide +kernel) rfl), (sp_1 11 (q := (⟨"PacedMap$TownText", "takePart", "()Z"⟩, 3)) rfl)⟩
theorem mb_TownText_takeOdds : MLb M_TownText_takeOdds 0 := ⟨tk_3 223 rfl rfl, (tk_1 19 (by decide +kernel) rfl), ⟨by decide +kernel, by decide +kernel⟩, by decide +kernel, by decide⟩
theorem mv_TownText_takeOdds : MLv M_TownText_takeOdds 0 := ⟨mb_TownText_takeOdds, (tk_3 222 (by decide +kernel) rfl), (sp_1 12 (q := (⟨"PacedMap$TownText", "takeOdds", "()Z"⟩, 3)) rfl)⟩
theorem mb_TownText_takePlace : MLb M_TownText_takePlace 0 := ⟨tk_4 5 rfl rfl, (tk_1 19 (by decide +kernel) rfl), ⟨by decide +kernel, by decide +kernel⟩, by decide +kernel, by decide⟩
theorem mv_TownText_takePlace : MLv M_TownText_takePlace 0 := ⟨mb_TownText_takePlace, (tk_4 4 (by decide +kernel) rfl), (sp_1 13 (q := (⟨"PacedMap$TownText", "takePlace", "()Z"⟩, 3)) rfl)⟩
theorem mb_TownText_takeWalker : MLb M_TownText_takeWalker 0 := ⟨tk_4 29 rfl rfl, (tk_1 19 (by decide +kernel) rfl), ⟨by decide +kernel, by decide +kernel⟩, by decide +kernel, by decide⟩
theorem mv_TownText_takeWalker : MLv M_TownText_takeWalker 0 := ⟨mb_TownText_takeWalker, (tk_4 28 (by decide +kernel) rfl), (sp_1 15 (q := (⟨"PacedMap$TownText", "takeWalker", "()Z"⟩, 3)) rfl)⟩
theorem mb_TownText_takeNumberBehind : MLb M_TownText_takeNumberBehind 4 := ⟨tk_4 33 rfl rfl, (tk_1 19 (by decide +kernel) rfl), ⟨by decide +kernel, by decide +kernel⟩, by decide +kernel, by decide⟩
theorem mv_TownText_takeNumberBehind : MLv M_TownText_takeNumberBehind 4 := ⟨mb_TownText_takeNumberBehind, (tk_4 32 (by decide +kernel) rfl), (sp_2 0 (q := (⟨"PacedMap$TownText", "takeNumberBehind", "(IIII)I"⟩, 3)) rfl)⟩
theorem mb_TownText_takeLeg : MLb M_TownText_takeLeg 0 := ⟨tk_4 44 rfl rfl, (tk_1 19 (by decide +kernel) rfl), ⟨by decide +kernel, by decide +kernel⟩, by decide +kernel, by decide⟩
theorem mv_TownText_takeLeg : MLv M_TownText_takeLeg 0 := ⟨mb_TownText_takeLeg, (tk_4 43 (by decide +kernel) rfl), (sp_2 1 (q := (⟨"PacedMap$TownText", "takeLeg", "()Z"⟩, 3)) rfl)⟩
theorem mb_TownText_takePaces : MLb M_TownText_takePaces 4 := ⟨tk_4 60 rfl rfl, (tk_1 19 (by decide +kernel) rfl), ⟨by decide +kernel, by decide +kernel⟩, by decide +kernel, by decide⟩
theorem mv_TownText_takePaces : MLv M_TownText_takePaces 4 := ⟨mb_TownText_takePaces, (tk_4 59 (by decide +kernel) rfl), (sp_2 4 (q := (⟨"PacedMap$TownText", "takePaces", "([IIII)Z"⟩, 3)) rfl)⟩
theorem mb_TownText_takeNewName : MLb M_TownText_takeNewName 0 := ⟨tk_4 9 rfl rfl, (tk_1 19 (by decide +kernel) rfl), ⟨by decide +kernel, by decide +kernel⟩, by decide +kernel, by decide⟩
theorem mv_TownText_takeNewName : MLv M_TownText_takeNewName 0 := ⟨mb_TownText_takeNewName, (tk_4 8 (by decide +kernel) rfl), (sp_1 14 (q := (⟨"PacedMap$TownText", "takeNewName", "()Z"⟩, 3)) rfl)⟩
theorem mb_TownText_takeKnownWalker : MLb M_TownText_takeKnownWalker 0 := ⟨tk_4 48 rfl rfl, (tk_1 19 (by decide +kernel) rfl), ⟨by decide +kernel, by decide +kernel⟩, by decide +kernel, by decide⟩
theorem mv_TownText_takeKnownWalker : MLv M_TownText_takeKnownWalker 0 := ⟨mb_TownText_takeKnownWalker, (tk_4 47 (by decide +kernel) rfl), (sp_2 2 (q := (⟨"PacedMap$TownText", "takeKnownWalker", "()I"⟩, 3)) rfl)⟩
theorem mb_TownText_takeKnownPlace : MLb M_TownText_takeKnownPlace 1 := ⟨tk_4 52 rfl rfl, (tk_1 19 (by decide +kernel) rfl), ⟨by decide +kernel, by decide +kernel⟩, by decide +kernel, by decide⟩
theorem mv_TownText_takeKnownPlace : MLv M_TownText_takeKnownPlace 1 := ⟨mb_TownText_takeKnownPlace, (tk_4 51 (by decide +kernel) rfl), (sp_2 3 (q := (⟨"PacedMap$TownText", "takeKnownPlace", "(I)I"⟩, 3)) rfl)⟩
theorem mb_Tray_init : MLb M_Tray_init 0 := ⟨tk_2 226 rfl rfl, (tk_1 14 (by decide +kernel) rfl), ⟨by decide +kernel, by decide +kernel⟩, by decide +kernel, by decide⟩
theorem mi_Tray_init : MLi M_Tray_init 0 := ⟨mb_Tray_init, (tk_2 225 (by decide +kernel) rfl), rfl, rfl⟩
theorem mb_Tray_begin : MLb M_Tray_begin 2 := ⟨tk_3 89 rfl rfl, (tk_1 14 (by decide +kernel) rfl), ⟨by decide +kernel, by decide +kernel⟩, by decide +kernel, by decide⟩
theorem mv_Tray_begin : MLv M_Tray_begin 2 := ⟨mb_Tray_begin, (tk_3 87 (by decide +kernel) rfl), (tk_3 88 (by decide +kernel) rfl)⟩
theorem mb_Tray_holds : MLb M_Tray_holds 2 := ⟨tk_3 129 rfl rfl, (tk_1 14 (by decide +kernel) rfl), ⟨by decide +kernel, by decide +kernel⟩, by decide +kernel, by decide⟩
theorem mv_Tray_holds : MLv M_Tray_holds 2 := ⟨mb_Tray_holds, (tk_3 127 (by decide +kernel) rfl), (tk_3 128 (by decide +kernel) rfl)⟩
theorem mb_Tray_put : MLb M_Tray_put 2 := ⟨tk_3 108 rfl rfl, (tk_1 14 (by decide +kernel) rfl), ⟨by decide +kernel, by decide +kernel⟩, by decide +kernel, by decide⟩
theorem mv_Tray_put : MLv M_Tray_put 2 := ⟨mb_Tray_put, (tk_3 106 (by decide +kernel) rfl), (tk_3 107 (by decide +kernel) rfl)⟩
theorem mb_Tray_cut : MLb M_Tray_cut 1 := ⟨tk_3 113 rfl rfl, (tk_1 14 (by decide +kernel) rfl), ⟨by decide +kernel, by decide +kernel⟩, by decide +kernel, by decide⟩
theorem mv_Tray_cut : MLv M_Tray_cut 1 := ⟨mb_Tray_cut, (tk_3 112 (by decide +kernel) rfl), (sp_1 3 (q := (⟨"PacedMap$Tray", "cut", "(J)J"⟩, 4)) rfl)⟩
theorem mb_PM_init : MLb M_PM_init 0 := ⟨tk_1 26 rfl rfl, (tk_1 1 (by decide +kernel) rfl), ⟨by decide +kernel, by decide +kernel⟩, by decide +kernel, by decide⟩
theorem mi_PM_init : MLi M_PM_init 0 := ⟨mb_PM_init, (tk_1 25 (by decide +kernel) rfl), rfl, rfl⟩
theorem mb_PM_status : MLb M_PM_status 0 := ⟨tk_3 66 rfl rfl, (tk_1 1 (by decide +kernel) rfl), ⟨by decide +kernel, by decide +kernel⟩, by decide +kernel, by decide⟩
theorem mv_PM_status : MLv M_PM_status 0 := ⟨mb_PM_status, (tk_3 64 (by decide +kernel) rfl), (tk_3 65 (by decide +kernel) rfl)⟩
theorem mb_PM_top : MLb M_PM_top 0 := ⟨tk_3 70 rfl rfl, (tk_1 1 (by decide +kernel) rfl), ⟨by decide +kernel, by decide +kernel⟩, by decide +kernel, by decide⟩
theorem mv_PM_top : MLv M_PM_top 0 := ⟨mb_PM_top, (tk_3 68 (by decide +kernel) rfl), (tk_3 69 (by decide +kernel) rfl)⟩
theorem mb_PM_bottom : MLb M_PM_bottom 0 := ⟨tk_3 74 rfl rfl, (tk_1 1 (by decide +kernel) rfl), ⟨by decide +kernel, by decide +kernel⟩, by decide +kernel, by decide⟩
theorem mv_PM_bottom : MLv M_PM_bottom 0 := ⟨mb_PM_bottom, (tk_3 72 (by decide +kernel) rfl), (tk_3 73 (by decide +kernel) rfl)⟩
theorem mb_PM_tray : MLb M_PM_tray 3 := ⟨tk_3 78 rfl rfl, (tk_1 1 (by decide +kernel) rfl), ⟨by decide +kernel, by decide +kernel⟩, by decide +kernel, by decide⟩
theorem mv_PM_tray : MLv M_PM_tray 3 := ⟨mb_PM_tray, (tk_3 76 (by decide +kernel) rfl), (tk_3 77 (by decide +kernel) rfl)⟩
theorem mb_PM_write : MLb M_PM_write 3 := ⟨tk_3 100 rfl rfl, (tk_1 1 (by decide +kernel) rfl), ⟨by decide +kernel, by decide +kernel⟩, by decide +kernel, by decide⟩
theorem mv_PM_write : MLv M_PM_write 3 := ⟨mb_PM_write, (tk_3 98 (by decide +kernel) rfl), (tk_3 99 (by decide +kernel) rfl)⟩
theorem mb_PM_read : MLb M_PM_read 2 := ⟨tk_3 117 rfl rfl, (tk_1 1 (by decide +kernel) rfl), ⟨by decide +kernel, by decide +kernel⟩, by decide +kernel, by decide⟩
theorem mv_PM_read : MLv M_PM_read 2 := ⟨mb_PM_read, (tk_3 115 (by decide +kernel) rfl), (tk_3 116 (by decide +kernel) rfl)⟩
theorem mb_PM_pour : MLb M_PM_pour 5 := ⟨tk_3 125 rfl rfl, (tk_1 1 (by decide +kernel) rfl), ⟨by decide +kernel, by decide +kernel⟩, by decide +kernel, by decide⟩
theorem mv_PM_pour : MLv M_PM_pour 5 := ⟨mb_PM_pour, (tk_3 123 (by decide +kernel) rfl), (tk_3 124 (by decide +kernel) rfl)⟩
theorem mb_PM_feed : MLb M_PM_feed 5 := ⟨tk_3 136 rfl rfl, (tk_1 1 (by decide +kernel) rfl), ⟨by decide +kernel, by decide +kernel⟩, by decide +kernel, by decide⟩
theorem mv_PM_feed : MLv M_PM_feed 5 := ⟨mb_PM_feed, (tk_3 134 (by decide +kernel) rfl), (tk_3 135 (by decide +kernel) rfl)⟩
theorem mb_PM_town : MLb M_PM_town 1 := ⟨tk_3 144 rfl rfl, (tk_1 1 (by decide +kernel) rfl), ⟨by decide +kernel, by decide +kernel⟩, by decide +kernel, by decide⟩
theorem mv_PM_town : MLv M_PM_town 1 := ⟨mb_PM_town, (tk_3 142 (by decide +kernel) rfl), (tk_3 143 (by decide +kernel) rfl)⟩
theorem mb_PM_days : MLb M_PM_days 1 := ⟨tk_4 83 rfl rfl, (tk_1 1 (by decide +kernel) rfl), ⟨by decide +kernel, by decide +kernel⟩, by decide +kernel, by decide⟩
theorem mv_PM_days : MLv M_PM_days 1 := ⟨mb_PM_days, (tk_4 81 (by decide +kernel) rfl), (tk_4 82 (by decide +kernel) rfl)⟩
theorem mb_PM_fault : MLb M_PM_fault 1 := ⟨tk_4 168 rfl rfl, (tk_1 1 (by decide +kernel) rfl), ⟨by decide +kernel, by decide +kernel⟩, by decide +kernel, by decide⟩
theorem mv_PM_fault : MLv M_PM_fault 1 := ⟨mb_PM_fault, (tk_4 166 (by decide +kernel) rfl), (tk_4 167 (by decide +kernel) rfl)⟩
theorem mb_PM_told : MLb M_PM_told 1 := ⟨tk_4 172 rfl rfl, (tk_1 1 (by decide +kernel) rfl), ⟨by decide +kernel, by decide +kernel⟩, by decide +kernel, by decide⟩
theorem mv_PM_told : MLv M_PM_told 1 := ⟨mb_PM_told, (tk_4 170 (by decide +kernel) rfl), (tk_4 171 (by decide +kernel) rfl)⟩
theorem mb_PM_walker : MLb M_PM_walker 2 := ⟨tk_5 34 rfl rfl, (tk_1 1 (by decide +kernel) rfl), ⟨by decide +kernel, by decide +kernel⟩, by decide +kernel, by decide⟩
theorem mv_PM_walker : MLv M_PM_walker 2 := ⟨mb_PM_walker, (tk_5 32 (by decide +kernel) rfl), (tk_5 33 (by decide +kernel) rfl)⟩
theorem mb_PM_leg : MLb M_PM_leg 2 := ⟨tk_5 45 rfl rfl, (tk_1 1 (by decide +kernel) rfl), ⟨by decide +kernel, by decide +kernel⟩, by decide +kernel, by decide⟩
theorem mv_PM_leg : MLv M_PM_leg 2 := ⟨mb_PM_leg, (tk_5 43 (by decide +kernel) rfl), (tk_5 44 (by decide +kernel) rfl)⟩
theorem mb_PM_place : MLb M_PM_place 2 := ⟨tk_5 61 rfl rfl, (tk_1 1 (by decide +kernel) rfl), ⟨by decide +kernel, by decide +kernel⟩, by decide +kernel, by decide⟩
theorem mv_PM_place : MLv M_PM_place 2 := ⟨mb_PM_place, (tk_5 59 (by decide +kernel) rfl), (tk_5 60 (by decide +kernel) rfl)⟩
theorem mb_PM_apart : MLb M_PM_apart 2 := ⟨tk_5 66 rfl rfl, (tk_1 1 (by decide +kernel) rfl), ⟨by decide +kernel, by decide +kernel⟩, by decide +kernel, by decide⟩
theorem mv_PM_apart : MLv M_PM_apart 2 := ⟨mb_PM_apart, (tk_5 64 (by decide +kernel) rfl), (tk_5 65 (by decide +kernel) rfl)⟩
theorem mb_PM_joined : MLb M_PM_joined 2 := ⟨tk_5 71 rfl rfl, (tk_1 1 (by decide +kernel) rfl), ⟨by decide +kernel, by decide +kernel⟩, by decide +kernel, by decide⟩
theorem mv_PM_joined : MLv M_PM_joined 2 := ⟨mb_PM_joined, (tk_5 69 (by decide +kernel) rfl), (tk_5 70 (by decide +kernel) rfl)⟩
theorem mb_PM_pace : MLb M_PM_pace 5 := ⟨tk_5 77 rfl rfl, (tk_1 1 (by decide +kernel) rfl), ⟨by decide +kernel, by decide +kernel⟩, by decide +kernel, by decide⟩
theorem mv_PM_pace : MLv M_PM_pace 5 := ⟨mb_PM_pace, (tk_5 75 (by decide +kernel) rfl), (tk_5 76 (by decide +kernel) rfl)⟩
theorem mb_PM_tell : MLb M_PM_tell 3 := ⟨tk_5 89 rfl rfl, (tk_1 1 (by decide +kernel) rfl), ⟨by decide +kernel, by decide +kernel⟩, by decide +kernel, by decide⟩
theorem mv_PM_tell : MLv M_PM_tell 3 := ⟨mb_PM_tell, (tk_5 87 (by decide +kernel) rfl), (tk_5 88 (by decide +kernel) rfl)⟩
theorem mb_PM_strike : MLb M_PM_strike 1 := ⟨tk_5 93 rfl rfl, (tk_1 1 (by decide +kernel) rfl), ⟨by decide +kernel, by decide +kernel⟩, by decide +kernel, by decide⟩
theorem mv_PM_strike : MLv M_PM_strike 1 := ⟨mb_PM_strike, (tk_5 91 (by decide +kernel) rfl), (tk_5 92 (by decide +kernel) rfl)⟩
theorem mb_PM_restore : MLb M_PM_restore 1 := ⟨tk_5 103 rfl rfl, (tk_1 1 (by decide +kernel) rfl), ⟨by decide +kernel, by decide +kernel⟩, by decide +kernel, by decide⟩
theorem mv_PM_restore : MLv M_PM_restore 1 := ⟨mb_PM_restore, (tk_5 101 (by decide +kernel) rfl), (tk_5 102 (by decide +kernel) rfl)⟩
theorem mb_PM_believe : MLb M_PM_believe 2 := ⟨tk_5 111 rfl rfl, (tk_1 1 (by decide +kernel) rfl), ⟨by decide +kernel, by decide +kernel⟩, by decide +kernel, by decide⟩
theorem mv_PM_believe : MLv M_PM_believe 2 := ⟨mb_PM_believe, (tk_5 109 (by decide +kernel) rfl), (tk_5 110 (by decide +kernel) rfl)⟩
theorem mb_PM_settle : MLb M_PM_settle 0 := ⟨tk_5 115 rfl rfl, (tk_1 1 (by decide +kernel) rfl), ⟨by decide +kernel, by decide +kernel⟩, by decide +kernel, by decide⟩
theorem mv_PM_settle : MLv M_PM_settle 0 := ⟨mb_PM_settle, (tk_5 113 (by decide +kernel) rfl), (tk_5 114 (by decide +kernel) rfl)⟩
theorem mb_PM_go : MLb M_PM_go 1 := ⟨tk_5 120 rfl rfl, (tk_1 1 (by decide +kernel) rfl), ⟨by decide +kernel, by decide +kernel⟩, by decide +kernel, by decide⟩
theorem mv_PM_go : MLv M_PM_go 1 := ⟨mb_PM_go, (tk_5 118 (by decide +kernel) rfl), (tk_5 119 (by decide +kernel) rfl)⟩
theorem mb_PM_rule : MLb M_PM_rule 1 := ⟨tk_5 133 rfl rfl, (tk_1 1 (by decide +kernel) rfl), ⟨by decide +kernel, by decide +kernel⟩, by decide +kernel, by decide⟩
theorem mv_PM_rule : MLv M_PM_rule 1 := ⟨mb_PM_rule, (tk_5 131 (by decide +kernel) rfl), (tk_5 132 (by decide +kernel) rfl)⟩
theorem mb_PM_out : MLb M_PM_out 0 := ⟨tk_5 137 rfl rfl, (tk_1 1 (by decide +kernel) rfl), ⟨by decide +kernel, by decide +kernel⟩, by decide +kernel, by decide⟩
theorem mv_PM_out : MLv M_PM_out 0 := ⟨mb_PM_out, (tk_5 135 (by decide +kernel) rfl), (tk_5 136 (by decide +kernel) rfl)⟩
theorem mb_PM_outSet : MLb M_PM_outSet 0 := ⟨tk_5 155 rfl rfl, (tk_1 1 (by decide +kernel) rfl), ⟨by decide +kernel, by decide +kernel⟩, by decide +kernel, by decide⟩
theorem mv_PM_outSet : MLv M_PM_outSet 0 := ⟨mb_PM_outSet, (tk_5 153 (by decide +kernel) rfl), (tk_5 154 (by decide +kernel) rfl)⟩
theorem mb_PM_fits : MLb M_PM_fits 1 := ⟨tk_5 159 rfl rfl, (tk_1 1 (by decide +kernel) rfl), ⟨by decide +kernel, by decide +kernel⟩, by decide +kernel, by decide⟩
theorem mv_PM_fits : MLv M_PM_fits 1 := ⟨mb_PM_fits, (tk_5 157 (by decide +kernel) rfl), (tk_5 158 (by decide +kernel) rfl)⟩
theorem mb_PM_firstFault : MLb M_PM_firstFault 2 := ⟨tk_5 186 rfl rfl, (tk_1 1 (by decide +kernel) rfl), ⟨by decide +kernel, by decide +kernel⟩, by decide +kernel, by decide⟩
theorem mv_PM_firstFault : MLv M_PM_firstFault 2 := ⟨mb_PM_firstFault, (tk_5 184 (by decide +kernel) rfl), (tk_5 185 (by decide +kernel) rfl)⟩
theorem mb_PM_oddsThat : MLb M_PM_oddsThat 3 := ⟨tk_5 195 rfl rfl, (tk_1 1 (by decide +kernel) rfl), ⟨by decide +kernel, by decide +kernel⟩, by decide +kernel, by decide⟩
theorem mv_PM_oddsThat : MLv M_PM_oddsThat 3 := ⟨mb_PM_oddsThat, (tk_5 193 (by decide +kernel) rfl), (tk_5 194 (by decide +kernel) rfl)⟩
theorem mb_PM_ask : MLb M_PM_ask 2 := ⟨tk_5 210 rfl rfl, (tk_1 1 (by decide +kernel) rfl), ⟨by decide +kernel, by decide +kernel⟩, by decide +kernel, by decide⟩
theorem mv_PM_ask : MLv M_PM_ask 2 := ⟨mb_PM_ask, (tk_5 208 (by decide +kernel) rfl), (tk_5 209 (by decide +kernel) rfl)⟩
theorem mb_PM_way : MLb M_PM_way 2 := ⟨tk_5 231 rfl rfl, (tk_1 1 (by decide +kernel) rfl), ⟨by decide +kernel, by decide +kernel⟩, by decide +kernel, by decide⟩
theorem mv_PM_way : MLv M_PM_way 2 := ⟨mb_PM_way, (tk_5 229 (by decide +kernel) rfl), (tk_5 230 (by decide +kernel) rfl)⟩
theorem mb_PM_wayAt : MLb M_PM_wayAt 3 := ⟨tk_6 20 rfl rfl, (tk_1 1 (by decide +kernel) rfl), ⟨by decide +kernel, by decide +kernel⟩, by decide +kernel, by decide⟩
theorem mv_PM_wayAt : MLv M_PM_wayAt 3 := ⟨mb_PM_wayAt, (tk_6 18 (by decide +kernel) rfl), (tk_6 19 (by decide +kernel) rfl)⟩
theorem mb_PM_area : MLb M_PM_area 2 := ⟨tk_6 24 rfl rfl, (tk_1 1 (by decide +kernel) rfl), ⟨by decide +kernel, by decide +kernel⟩, by decide +kernel, by decide⟩
theorem mv_PM_area : MLv M_PM_area 2 := ⟨mb_PM_area, (tk_6 22 (by decide +kernel) rfl), (tk_6 23 (by decide +kernel) rfl)⟩
theorem mb_PM_game : MLb M_PM_game 1 := ⟨tk_6 40 rfl rfl, (tk_1 1 (by decide +kernel) rfl), ⟨by decide +kernel, by decide +kernel⟩, by decide +kernel, by decide⟩
theorem mv_PM_game : MLv M_PM_game 1 := ⟨mb_PM_game, (tk_6 38 (by decide +kernel) rfl), (tk_6 39 (by decide +kernel) rfl)⟩
theorem mb_PM_moveOf : MLb M_PM_moveOf 1 := ⟨tk_6 70 rfl rfl, (tk_1 1 (by decide +kernel) rfl), ⟨by decide +kernel, by decide +kernel⟩, by decide +kernel, by decide⟩
theorem mv_PM_moveOf : MLv M_PM_moveOf 1 := ⟨mb_PM_moveOf, (tk_6 68 (by decide +kernel) rfl), (tk_6 69 (by decide +kernel) rfl)⟩
theorem mb_PM_misread : MLb M_PM_misread 2 := ⟨tk_6 78 rfl rfl, (tk_1 1 (by decide +kernel) rfl), ⟨by decide +kernel, by decide +kernel⟩, by decide +kernel, by decide⟩
theorem mv_PM_misread : MLv M_PM_misread 2 := ⟨mb_PM_misread, (tk_6 76 (by decide +kernel) rfl), (tk_6 77 (by decide +kernel) rfl)⟩
theorem mb_PM_share : MLb M_PM_share 1 := ⟨tk_6 88 rfl rfl, (tk_1 1 (by decide +kernel) rfl), ⟨by decide +kernel, by decide +kernel⟩, by decide +kernel, by decide⟩
theorem mv_PM_share : MLv M_PM_share 1 := ⟨mb_PM_share, (tk_6 86 (by decide +kernel) rfl), (tk_6 87 (by decide +kernel) rfl)⟩
theorem mb_PM_copyPlaces : MLb M_PM_copyPlaces 1 := ⟨tk_6 96 rfl rfl, (tk_1 1 (by decide +kernel) rfl), ⟨by decide +kernel, by decide +kernel⟩, by decide +kernel, by decide⟩
theorem mv_PM_copyPlaces : MLv M_PM_copyPlaces 1 := ⟨mb_PM_copyPlaces, (tk_6 94 (by decide +kernel) rfl), (tk_6 95 (by decide +kernel) rfl)⟩
theorem mb_PM_live : MLb M_PM_live 1 := ⟨tk_6 100 rfl rfl, (tk_1 1 (by decide +kernel) rfl), ⟨by decide +kernel, by decide +kernel⟩, by decide +kernel, by decide⟩
theorem mv_PM_live : MLv M_PM_live 1 := ⟨mb_PM_live, (tk_6 98 (by decide +kernel) rfl), (tk_6 99 (by decide +kernel) rfl)⟩
theorem mb_PM_lived : MLb M_PM_lived 1 := ⟨tk_6 148 rfl rfl, (tk_1 1 (by decide +kernel) rfl), ⟨by decide +kernel, by decide +kernel⟩, by decide +kernel, by decide⟩
theorem mv_PM_lived : MLv M_PM_lived 1 := ⟨mb_PM_lived, (tk_6 146 (by decide +kernel) rfl), (tk_6 147 (by decide +kernel) rfl)⟩
theorem mb_PM_mean : MLb M_PM_mean 2 := ⟨tk_6 152 rfl rfl, (tk_1 1 (by decide +kernel) rfl), ⟨by decide +kernel, by decide +kernel⟩, by decide +kernel, by decide⟩
theorem mv_PM_mean : MLv M_PM_mean 2 := ⟨mb_PM_mean, (tk_6 150 (by decide +kernel) rfl), (tk_6 151 (by decide +kernel) rfl)⟩
theorem mb_PM_mark : MLb M_PM_mark 0 := ⟨tk_6 156 rfl rfl, (tk_1 1 (by decide +kernel) rfl), ⟨by decide +kernel, by decide +kernel⟩, by decide +kernel, by decide⟩
theorem mv_PM_mark : MLv M_PM_mark 0 := ⟨mb_PM_mark, (tk_6 154 (by decide +kernel) rfl), (tk_6 155 (by decide +kernel) rfl)⟩
theorem mb_PM_undo : MLb M_PM_undo 0 := ⟨tk_6 160 rfl rfl, (tk_1 1 (by decide +kernel) rfl), ⟨by decide +kernel, by decide +kernel⟩, by decide +kernel, by decide⟩
theorem mv_PM_undo : MLv M_PM_undo 0 := ⟨mb_PM_undo, (tk_6 158 (by decide +kernel) rfl), (tk_6 159 (by decide +kernel) rfl)⟩
theorem mb_PM_fail : MLb M_PM_fail 1 := ⟨tk_3 121 rfl rfl, (tk_1 1 (by decide +kernel) rfl), ⟨by decide +kernel, by decide +kernel⟩, by decide +kernel, by decide⟩
theorem mv_PM_fail : MLv M_PM_fail 1 := ⟨mb_PM_fail, (tk_3 120 (by decide +kernel) rfl), (sp_1 4 (q := (⟨"PacedMap", "fail", "(I)I"⟩, 19)) rfl)⟩
theorem mb_PM_refuse : MLb M_PM_refuse 1 := ⟨tk_3 85 rfl rfl, (tk_1 1 (by decide +kernel) rfl), ⟨by decide +kernel, by decide +kernel⟩, by decide +kernel, by decide⟩
theorem mv_PM_refuse : MLv M_PM_refuse 1 := ⟨mb_PM_refuse, (tk_3 84 (by decide +kernel) rfl), (sp_1 0 (q := (⟨"PacedMap", "refuse", "(I)Z"⟩, 19)) rfl)⟩
theorem mb_PM_answer : MLb M_PM_answer 1 := ⟨tk_4 79 rfl rfl, (tk_1 1 (by decide +kernel) rfl), ⟨by decide +kernel, by decide +kernel⟩, by decide +kernel, by decide⟩
theorem mv_PM_answer : MLv M_PM_answer 1 := ⟨mb_PM_answer, (tk_4 78 (by decide +kernel) rfl), (sp_2 5 (q := (⟨"PacedMap", "answer", "(I)I"⟩, 19)) rfl)⟩
theorem mb_PM_accept : MLb M_PM_accept 0 := ⟨tk_3 96 rfl rfl, (tk_1 1 (by decide +kernel) rfl), ⟨by decide +kernel, by decide +kernel⟩, by decide +kernel, by decide⟩
theorem mv_PM_accept : MLv M_PM_accept 0 := ⟨mb_PM_accept, (tk_3 95 (by decide +kernel) rfl), (sp_1 1 (q := (⟨"PacedMap", "accept", "()Z"⟩, 19)) rfl)⟩
theorem mb_PM_acceptFraction : MLb M_PM_acceptFraction 2 := ⟨tk_5 203 rfl rfl, (tk_1 1 (by decide +kernel) rfl), ⟨by decide +kernel, by decide +kernel⟩, by decide +kernel, by decide⟩
theorem mv_PM_acceptFraction : MLv M_PM_acceptFraction 2 := ⟨mb_PM_acceptFraction, (tk_5 202 (by decide +kernel) rfl), (sp_3 6 (q := (⟨"PacedMap", "acceptFraction", "(JJ)Z"⟩, 19)) rfl)⟩
theorem mb_PM_commonDivisor : MLb M_PM_commonDivisor 2 := ⟨tk_5 206 rfl rfl, (tk_1 1 (by decide +kernel) rfl), ⟨by decide +kernel, by decide +kernel⟩, by decide +kernel, by decide⟩
theorem ms_PM_commonDivisor : MLs M_PM_commonDivisor 2 := ⟨mb_PM_commonDivisor, (tk_5 205 (by decide +kernel) rfl)⟩
theorem mb_PM_within : MLb M_PM_within 2 := ⟨tk_3 81 rfl rfl, (tk_1 1 (by decide +kernel) rfl), ⟨by decide +kernel, by decide +kernel⟩, by decide +kernel, by decide⟩
theorem ms_PM_within : MLs M_PM_within 2 := ⟨mb_PM_within, (tk_3 80 (by decide +kernel) rfl)⟩
theorem mb_PM_has : MLb M_PM_has 2 := ⟨tk_4 219 rfl rfl, (tk_1 1 (by decide +kernel) rfl), ⟨by decide +kernel, by decide +kernel⟩, by decide +kernel, by decide⟩
theorem ms_PM_has : MLs M_PM_has 2 := ⟨mb_PM_has, (tk_4 218 (by decide +kernel) rfl)⟩
theorem mb_PM_canBePaces : MLb M_PM_canBePaces 1 := ⟨tk_5 84 rfl rfl, (tk_1 1 (by decide +kernel) rfl), ⟨by decide +kernel, by decide +kernel⟩, by decide +kernel, by decide⟩
theorem ms_PM_canBePaces : MLs M_PM_canBePaces 1 := ⟨mb_PM_canBePaces, (tk_5 83 (by decide +kernel) rfl)⟩
theorem mb_PM_twoPlaces : MLb M_PM_twoPlaces 2 := ⟨tk_5 81 rfl rfl, (tk_1 1 (by decide +kernel) rfl), ⟨by decide +kernel, by decide +kernel⟩, by decide +kernel, by decide⟩
theorem mv_PM_twoPlaces : MLv M_PM_twoPlaces 2 := ⟨mb_PM_twoPlaces, (tk_5 80 (by decide +kernel) rfl), (sp_3 1 (q := (⟨"PacedMap", "twoPlaces", "(II)Z"⟩, 19)) rfl)⟩
theorem mb_PM_canBeWalkers : MLb M_PM_canBeWalkers 1 := ⟨tk_5 163 rfl rfl, (tk_1 1 (by decide +kernel) rfl), ⟨by decide +kernel, by decide +kernel⟩, by decide +kernel, by decide⟩
theorem mv_PM_canBeWalkers : MLv M_PM_canBeWalkers 1 := ⟨mb_PM_canBeWalkers, (tk_5 162 (by decide +kernel) rfl), (sp_3 3 (q := (⟨"PacedMap", "canBeWalkers", "(I)Z"⟩, 19)) rfl)⟩
theorem mb_PM_spotFault : MLb M_PM_spotFault 2 := ⟨tk_3 104 rfl rfl, (tk_1 1 (by decide +kernel) rfl), ⟨by decide +kernel, by decide +kernel⟩, by decide +kernel, by decide⟩
theorem mv_PM_spotFault : MLv M_PM_spotFault 2 := ⟨mb_PM_spotFault, (tk_3 103 (by decide +kernel) rfl), (sp_1 2 (q := (⟨"PacedMap", "spotFault", "(II)I"⟩, 19)) rfl)⟩
theorem mb_PM_toldByChart : MLb M_PM_toldByChart 1 := ⟨tk_4 176 rfl rfl, (tk_1 1 (by decide +kernel) rfl), ⟨by decide +kernel, by decide +kernel⟩, by decide +kernel, by decide⟩
theorem mv_PM_toldByChart : MLv M_PM_toldByChart 1 := ⟨mb_PM_toldByChart, (tk_4 175 (by decide +kernel) rfl), (sp_2 14 (q := (⟨"PacedMap", "toldByChart", "(I)I"⟩, 19)) rfl)⟩
theorem mb_PM_cornersFault : MLb M_PM_cornersFault 2 := ⟨tk_6 28 rfl rfl, (tk_1 1 (by decide +kernel) rfl), ⟨by decide +kernel, by decide +kernel⟩, by decide +kernel, by decide⟩
theorem mv_PM_cornersFault : MLv M_PM_cornersFault 2 := ⟨mb_PM_cornersFault, (tk_6 27 (by decide +kernel) rfl), (sp_3 13 (q := (⟨"PacedMap", "cornersFault", "(LPacedMap$Tray;I)I"⟩, 19)) rfl)⟩
theorem mb_PM_twiceArea : MLb M_PM_twiceArea 2 := ⟨tk_6 32 rfl rfl, (tk_1 1 (by decide +kernel) rfl), ⟨by decide +kernel, by decide +kernel⟩, by decide +kernel, by decide⟩
theorem mv_PM_twiceArea : MLv M_PM_twiceArea 2 := ⟨mb_PM_twiceArea, (tk_6 31 (by decide +kernel) rfl), (sp_3 14 (q := (⟨"PacedMap", "twiceArea", "(LPacedMap$Tray;I)J"⟩, 19)) rfl)⟩
theorem mb_PM_choose : MLb M_PM_choose 2 := ⟨tk_6 81 rfl rfl, (tk_1 1 (by decide +kernel) rfl), ⟨by decide +kernel, by decide +kernel⟩, by decide +kernel, by decide⟩
theorem ms_PM_choose : MLs M_PM_choose 2 := ⟨mb_PM_choose, (tk_6 80 (by decide +kernel) rfl)⟩
theorem mb_PM_power : MLb M_PM_power 2 := ⟨tk_6 84 rfl rfl, (tk_1 1 (by decide +kernel) rfl), ⟨by decide +kernel, by decide +kernel⟩, by decide +kernel, by decide⟩
theorem ms_PM_power : MLs M_PM_power 2 := ⟨mb_PM_power, (tk_6 83 (by decide +kernel) rfl)⟩
theorem mb_Mo_init : MLb M_Mo_init 0 := ⟨tk_6 165 rfl rfl, (tk_1 15 (by decide +kernel) rfl), ⟨by decide +kernel, by decide +kernel⟩, by decide +kernel, by decide⟩
theorem mi_Mo_init : MLi M_Mo_init 0 := ⟨mb_Mo_init, (tk_6 164 (by decide +kernel) rfl), rfl, rfl⟩
theorem mb_Mo_plain : MLb M_Mo_plain 1 := ⟨tk_6 170 rfl rfl, (tk_1 15 (by decide +kernel) rfl), ⟨by decide +kernel, by decide +kernel⟩, by decide +kernel, by decide⟩
theorem mv_Mo_plain : MLv M_Mo_plain 1 := ⟨mb_Mo_plain, (tk_6 169 (by decide +kernel) rfl), (sp_4 9 (q := (⟨"PacedMapModel", "plain", "(I)V"⟩, 50)) rfl)⟩
theorem mb_Mo_status : MLb M_Mo_status 0 := ⟨tk_7 85 rfl rfl, (tk_1 15 (by decide +kernel) rfl), ⟨by decide +kernel, by decide +kernel⟩, by decide +kernel, by decide⟩
theorem mv_Mo_status : MLv M_Mo_status 0 := ⟨mb_Mo_status, (tk_7 83 (by decide +kernel) rfl), (tk_7 84 (by decide +kernel) rfl)⟩
theorem mb_Mo_top : MLb M_Mo_top 0 := ⟨tk_7 89 rfl rfl, (tk_1 15 (by decide +kernel) rfl), ⟨by decide +kernel, by decide +kernel⟩, by decide +kernel, by decide⟩
theorem mv_Mo_top : MLv M_Mo_top 0 := ⟨mb_Mo_top, (tk_7 87 (by decide +kernel) rfl), (tk_7 88 (by decide +kernel) rfl)⟩
theorem mb_Mo_bottom : MLb M_Mo_bottom 0 := ⟨tk_7 93 rfl rfl, (tk_1 15 (by decide +kernel) rfl), ⟨by decide +kernel, by decide +kernel⟩, by decide +kernel, by decide⟩
theorem mv_Mo_bottom : MLv M_Mo_bottom 0 := ⟨mb_Mo_bottom, (tk_7 91 (by decide +kernel) rfl), (tk_7 92 (by decide +kernel) rfl)⟩
theorem mb_Mo_is : MLb M_Mo_is 1 := ⟨tk_7 104 rfl rfl, (tk_1 15 (by decide +kernel) rfl), ⟨by decide +kernel, by decide +kernel⟩, by decide +kernel, by decide⟩
theorem mv_Mo_is : MLv M_Mo_is 1 := ⟨mb_Mo_is, (tk_7 103 (by decide +kernel) rfl), (sp_4 10 (q := (⟨"PacedMapModel", "is", "(I)Z"⟩, 50)) rfl)⟩
theorem mb_Mo_refuse : MLb M_Mo_refuse 1 := ⟨tk_7 164 rfl rfl, (tk_1 15 (by decide +kernel) rfl), ⟨by decide +kernel, by decide +kernel⟩, by decide +kernel, by decide⟩
theorem mv_Mo_refuse : MLv M_Mo_refuse 1 := ⟨mb_Mo_refuse, (tk_7 163 (by decide +kernel) rfl), (sp_5 0 (q := (⟨"PacedMapModel", "refuse", "(I)I"⟩, 50)) rfl)⟩
theorem mb_Mo_gives : MLb M_Mo_gives 1 := ⟨tk_8 5 rfl rfl, (tk_1 15 (by decide +kernel) rfl), ⟨by decide +kernel, by decide +kernel⟩, by decide +kernel, by decide⟩
theorem mv_Mo_gives : MLv M_Mo_gives 1 := ⟨mb_Mo_gives, (tk_8 4 (by decide +kernel) rfl), (sp_6 2 (q := (⟨"PacedMapModel", "gives", "(I)I"⟩, 50)) rfl)⟩
theorem mb_Mo_orNone : MLb M_Mo_orNone 1 := ⟨tk_8 29 rfl rfl, (tk_1 15 (by decide +kernel) rfl), ⟨by decide +kernel, by decide +kernel⟩, by decide +kernel, by decide⟩
theorem mv_Mo_orNone : MLv M_Mo_orNone 1 := ⟨mb_Mo_orNone, (tk_8 28 (by decide +kernel) rfl), (sp_6 6 (q := (⟨"PacedMapModel", "orNone", "(I)I"⟩, 50)) rfl)⟩
theorem mb_Mo_tellsBy : MLb M_Mo_tellsBy 2 := ⟨tk_9 3 rfl rfl, (tk_1 15 (by decide +kernel) rfl), ⟨by decide +kernel, by decide +kernel⟩, by decide +kernel, by decide⟩
theorem mv_Mo_tellsBy : MLv M_Mo_tellsBy 2 := ⟨mb_Mo_tellsBy, (tk_9 2 (by decide +kernel) rfl), (sp_8 6 (q := (⟨"PacedMapModel", "tellsBy", "(JJ)Z"⟩, 50)) rfl)⟩
theorem mb_Mo_isTray : MLb M_Mo_isTray 1 := ⟨tk_7 100 rfl rfl, (tk_1 15 (by decide +kernel) rfl), ⟨by decide +kernel, by decide +kernel⟩, by decide +kernel, by decide⟩
theorem ms_Mo_isTray : MLs M_Mo_isTray 1 := ⟨mb_Mo_isTray, (tk_7 99 (by decide +kernel) rfl)⟩
theorem mb_Mo_cut : MLb M_Mo_cut 2 := ⟨tk_7 115 rfl rfl, (tk_1 15 (by decide +kernel) rfl), ⟨by decide +kernel, by decide +kernel⟩, by decide +kernel, by decide⟩
theorem ms_Mo_cut : MLs M_Mo_cut 2 := ⟨mb_Mo_cut, (tk_7 114 (by decide +kernel) rfl)⟩
theorem mb_Mo_tray : MLb M_Mo_tray 3 := ⟨tk_7 97 rfl rfl, (tk_1 15 (by decide +kernel) rfl), ⟨by decide +kernel, by decide +kernel⟩, by decide +kernel, by decide⟩
theorem mv_Mo_tray : MLv M_Mo_tray 3 := ⟨mb_Mo_tray, (tk_7 95 (by decide +kernel) rfl), (tk_7 96 (by decide +kernel) rfl)⟩
theorem mb_Mo_wrongPlace : MLb M_Mo_wrongPlace 2 := ⟨tk_7 112 rfl rfl, (tk_1 15 (by decide +kernel) rfl), ⟨by decide +kernel, by decide +kernel⟩, by decide +kernel, by decide⟩
theorem mv_Mo_wrongPlace : MLv M_Mo_wrongPlace 2 := ⟨mb_Mo_wrongPlace, (tk_7 111 (by decide +kernel) rfl), (sp_4 11 (q := (⟨"PacedMapModel", "wrongPlace", "(II)I"⟩, 50)) rfl)⟩
theorem mb_Mo_write : MLb M_Mo_write 3 := ⟨tk_7 108 rfl rfl, (tk_1 15 (by decide +kernel) rfl), ⟨by decide +kernel, by decide +kernel⟩, by decide +kernel, by decide⟩
theorem mv_Mo_write : MLv M_Mo_write 3 := ⟨mb_Mo_write, (tk_7 106 (by decide +kernel) rfl), (tk_7 107 (by decide +kernel) rfl)⟩
theorem mb_Mo_read : MLb M_Mo_read 2 := ⟨tk_7 119 rfl rfl, (tk_1 15 (by decide +kernel) rfl), ⟨by decide +kernel, by decide +kernel⟩, by decide +kernel, by decide⟩
theorem mv_Mo_read : MLv M_Mo_read 2 := ⟨mb_Mo_read, (tk_7 117 (by decide +kernel) rfl), (tk_7 118 (by decide +kernel) rfl)⟩
theorem mb_Mo_pour : MLb M_Mo_pour 5 := ⟨tk_7 124 rfl rfl, (tk_1 15 (by decide +kernel) rfl), ⟨by decide +kernel, by decide +kernel⟩, by decide +kernel, by decide⟩
theorem mv_Mo_pour : MLv M_Mo_pour 5 := ⟨mb_Mo_pour, (tk_7 122 (by decide +kernel) rfl), (tk_7 123 (by decide +kernel) rfl)⟩
theorem mb_Mo_isFrom : MLb M_Mo_isFrom 3 := ⟨tk_8 146 rfl rfl, (tk_1 15 (by decide +kernel) rfl), ⟨by decide +kernel, by decide +kernel⟩, by decide +kernel, by decide⟩
theorem ms_Mo_isFrom : MLs M_Mo_isFrom 3 := ⟨mb_Mo_isFrom, (tk_8 145 (by decide +kernel) rfl)⟩
theorem mb_Mo_feed : MLb M_Mo_feed 5 := ⟨tk_7 128 rfl rfl, (tk_1 15 (by decide +kernel) rfl), ⟨by decide +kernel, by decide +kernel⟩, by decide +kernel, by decide⟩
theorem mv_Mo_feed : MLv M_Mo_feed 5 := ⟨mb_Mo_feed, (tk_7 126 (by decide +kernel) rfl), (tk_7 127 (by decide +kernel) rfl)⟩
theorem mb_Mo_four : MLb M_Mo_four 1 := ⟨tk_7 132 rfl rfl, (tk_1 15 (by decide +kernel) rfl), ⟨by decide +kernel, by decide +kernel⟩, by decide +kernel, by decide⟩
theorem mv_Mo_four : MLv M_Mo_four 1 := ⟨mb_Mo_four, (tk_7 131 (by decide +kernel) rfl), (sp_4 12 (q := (⟨"PacedMapModel", "four", "(I)V"⟩, 50)) rfl)⟩
theorem mb_Mo_byteAt : MLb M_Mo_byteAt 1 := ⟨tk_7 152 rfl rfl, (tk_1 15 (by decide +kernel) rfl), ⟨by decide +kernel, by decide +kernel⟩, by decide +kernel, by decide⟩
theorem mv_Mo_byteAt : MLv M_Mo_byteAt 1 := ⟨mb_Mo_byteAt, (tk_7 151 (by decide +kernel) rfl), (sp_4 15 (q := (⟨"PacedMapModel", "byteAt", "(I)I"⟩, 50)) rfl)⟩
theorem mb_Mo_isSmall : MLb M_Mo_isSmall 1 := ⟨tk_7 155 rfl rfl, (tk_1 15 (by decide +kernel) rfl), ⟨by decide +kernel, by decide +kernel⟩, by decide +kernel, by decide⟩
theorem ms_Mo_isSmall : MLs M_Mo_isSmall 1 := ⟨mb_Mo_isSmall, (tk_7 154 (by decide +kernel) rfl)⟩
theorem mb_Mo_isDigit : MLb M_Mo_isDigit 1 := ⟨tk_7 158 rfl rfl, (tk_1 15 (by decide +kernel) rfl), ⟨by decide +kernel, by decide +kernel⟩, by decide +kernel, by decide⟩
theorem ms_Mo_isDigit : MLs M_Mo_isDigit 1 := ⟨mb_Mo_isDigit, (tk_7 157 (by decide +kernel) rfl)⟩
theorem mb_Mo_ahead : MLb M_Mo_ahead 0 := ⟨tk_7 148 rfl rfl, (tk_1 15 (by decide +kernel) rfl), ⟨by decide +kernel, by decide +kernel⟩, by decide +kernel, by decide⟩
theorem mv_Mo_ahead : MLv M_Mo_ahead 0 := ⟨mb_Mo_ahead, (tk_7 147 (by decide +kernel) rfl), (sp_4 14 (q := (⟨"PacedMapModel", "ahead", "()V"⟩, 50)) rfl)⟩
theorem mb_Mo_isSign : MLb M_Mo_isSign 1 := ⟨tk_7 207 rfl rfl, (tk_1 15 (by decide +kernel) rfl), ⟨by decide +kernel, by decide +kernel⟩, by decide +kernel, by decide⟩
theorem mv_Mo_isSign : MLv M_Mo_isSign 1 := ⟨mb_Mo_isSign, (tk_7 206 (by decide +kernel) rfl), (sp_5 10 (q := (⟨"PacedMapModel", "isSign", "(I)Z"⟩, 50)) rfl)⟩
theorem mb_Mo_inWords : MLb M_Mo_inWords 1 := ⟨tk_7 173 rfl rfl, (tk_1 15 (by decide +kernel) rfl), ⟨by decide +kernel, by decide +kernel⟩, by decide +kernel, by decide⟩
theorem mv_Mo_inWords : MLv M_Mo_inWords 1 := ⟨mb_Mo_inWords, (tk_7 172 (by decide +kernel) rfl), (sp_5 2 (q := (⟨"PacedMapModel", "inWords", "(Ljava/lang/String;)I"⟩, 50)) rfl)⟩
theorem mb_Mo_fails : MLb M_Mo_fails 1 := ⟨tk_7 179 rfl rfl, (tk_1 15 (by decide +kernel) rfl), ⟨by decide +kernel, by decide +kernel⟩, by decide +kernel, by decide⟩
theorem mv_Mo_fails : MLv M_Mo_fails 1 := ⟨mb_Mo_fails, (tk_7 178 (by decide +kernel) rfl), (sp_5 3 (q := (⟨"PacedMapModel", "fails", "(I)Z"⟩, 50)) rfl)⟩
theorem mb_Mo_begins : MLb M_Mo_begins 2 := ⟨tk_7 144 rfl rfl, (tk_1 15 (by decide +kernel) rfl), ⟨by decide +kernel, by decide +kernel⟩, by decide +kernel, by decide⟩
theorem mv_Mo_begins : MLv M_Mo_begins 2 := ⟨mb_Mo_begins, (tk_7 143 (by decide +kernel) rfl), (sp_4 13 (q := (⟨"PacedMapModel", "begins", "(II)Z"⟩, 50)) rfl)⟩
theorem mb_Mo_wantSign : MLb M_Mo_wantSign 1 := ⟨tk_7 203 rfl rfl, (tk_1 15 (by decide +kernel) rfl), ⟨by decide +kernel, by decide +kernel⟩, by decide +kernel, by decide⟩
theorem mv_Mo_wantSign : MLv M_Mo_wantSign 1 := ⟨mb_Mo_wantSign, (tk_7 202 (by decide +kernel) rfl), (sp_5 9 (q := (⟨"PacedMapModel", "wantSign", "(I)Z"⟩, 50)) rfl)⟩
theorem mb_Mo_number : MLb M_Mo_number 3 := ⟨tk_7 222 rfl rfl, (tk_1 15 (by decide +kernel) rfl), ⟨by decide +kernel, by decide +kernel⟩, by decide +kernel, by decide⟩
theorem mv_Mo_number : MLv M_Mo_number 3 := ⟨mb_Mo_number, (tk_7 221 (by decide +kernel) rfl), (sp_5 13 (q := (⟨"PacedMapModel", "number", "(III)Z"⟩, 50)) rfl)⟩
theorem mb_Mo_isName : MLb M_Mo_isName 1 := ⟨tk_7 191 rfl rfl, (tk_1 15 (by decide +kernel) rfl), ⟨by decide +kernel, by decide +kernel⟩, by decide +kernel, by decide⟩
theorem mv_Mo_isName : MLv M_Mo_isName 1 := ⟨mb_Mo_isName, (tk_7 190 (by decide +kernel) rfl), (sp_5 6 (q := (⟨"PacedMapModel", "isName", "(Ljava/lang/String;)Z"⟩, 50)) rfl)⟩
theorem mb_Mo_nameHere : MLb M_Mo_nameHere 0 := ⟨tk_7 199 rfl rfl, (tk_1 15 (by decide +kernel) rfl), ⟨by decide +kernel, by decide +kernel⟩, by decide +kernel, by decide⟩
theorem mv_Mo_nameHere : MLv M_Mo_nameHere 0 := ⟨mb_Mo_nameHere, (tk_7 198 (by decide +kernel) rfl), (sp_5 8 (q := (⟨"PacedMapModel", "nameHere", "()J"⟩, 50)) rfl)⟩
theorem mb_Mo_findHere : MLb M_Mo_findHere 2 := ⟨tk_7 195 rfl rfl, (tk_1 15 (by decide +kernel) rfl), ⟨by decide +kernel, by decide +kernel⟩, by decide +kernel, by decide⟩
theorem mv_Mo_findHere : MLv M_Mo_findHere 2 := ⟨mb_Mo_findHere, (tk_7 194 (by decide +kernel) rfl), (sp_5 7 (q := (⟨"PacedMapModel", "findHere", "(II)I"⟩, 50)) rfl)⟩
theorem mb_Mo_fault : MLb M_Mo_fault 1 := ⟨tk_7 136 rfl rfl, (tk_1 15 (by decide +kernel) rfl), ⟨by decide +kernel, by decide +kernel⟩, by decide +kernel, by decide⟩
theorem mv_Mo_fault : MLv M_Mo_fault 1 := ⟨mb_Mo_fault, (tk_7 134 (by decide +kernel) rfl), (tk_7 135 (by decide +kernel) rfl)⟩
theorem mb_Mo_taken : MLb M_Mo_taken 1 := ⟨tk_8 1 rfl rfl, (tk_1 15 (by decide +kernel) rfl), ⟨by decide +kernel, by decide +kernel⟩, by decide +kernel, by decide⟩
theorem mv_Mo_taken : MLv M_Mo_taken 1 := ⟨mb_Mo_taken, (tk_8 0 (by decide +kernel) rfl), (sp_6 1 (q := (⟨"PacedMapModel", "taken", "(I)I"⟩, 50)) rfl)⟩
theorem mb_Mo_walkerRow : MLb M_Mo_walkerRow 1 := ⟨tk_7 214 rfl rfl, (tk_1 15 (by decide +kernel) rfl), ⟨by decide +kernel, by decide +kernel⟩, by decide +kernel, by decide⟩
theorem ms_Mo_walkerRow : MLs M_Mo_walkerRow 1 := ⟨mb_Mo_walkerRow, (tk_7 213 (by decide +kernel) rfl)⟩
theorem mb_Mo_legRow : MLb M_Mo_legRow 1 := ⟨tk_7 229 rfl rfl, (tk_1 15 (by decide +kernel) rfl), ⟨by decide +kernel, by decide +kernel⟩, by decide +kernel, by decide⟩
theorem ms_Mo_legRow : MLs M_Mo_legRow 1 := ⟨mb_Mo_legRow, (tk_7 228 (by decide +kernel) rfl)⟩
theorem mb_Mo_isIn : MLb M_Mo_isIn 2 := ⟨tk_8 61 rfl rfl, (tk_1 15 (by decide +kernel) rfl), ⟨by decide +kernel, by decide +kernel⟩, by decide +kernel, by decide⟩
theorem mv_Mo_isIn : MLv M_Mo_isIn 2 := ⟨mb_Mo_isIn, (tk_8 60 (by decide +kernel) rfl), (sp_6 14 (q := (⟨"PacedMapModel", "isIn", "(II)Z"⟩, 50)) rfl)⟩
theorem mb_Mo_isThere : MLb M_Mo_isThere 1 := ⟨tk_7 218 rfl rfl, (tk_1 15 (by decide +kernel) rfl), ⟨by decide +kernel, by decide +kernel⟩, by decide +kernel, by decide⟩
theorem mv_Mo_isThere : MLv M_Mo_isThere 1 := ⟨mb_Mo_isThere, (tk_7 217 (by decide +kernel) rfl), (sp_5 12 (q := (⟨"PacedMapModel", "isThere", "(I)Z"⟩, 50)) rfl)⟩
theorem mb_Mo_newName : MLb M_Mo_newName 1 := ⟨tk_7 187 rfl rfl, (tk_1 15 (by decide +kernel) rfl), ⟨by decide +kernel, by decide +kernel⟩, by decide +kernel, by decide⟩
theorem mv_Mo_newName : MLv M_Mo_newName 1 := ⟨mb_Mo_newName, (tk_7 186 (by decide +kernel) rfl), (sp_5 5 (q := (⟨"PacedMapModel", "newName", "(I)Z"⟩, 50)) rfl)⟩
theorem mb_Mo_knownTo : MLb M_Mo_knownTo 3 := ⟨tk_7 233 rfl rfl, (tk_1 15 (by decide +kernel) rfl), ⟨by decide +kernel, by decide +kernel⟩, by decide +kernel, by decide⟩
theorem mv_Mo_knownTo : MLv M_Mo_knownTo 3 := ⟨mb_Mo_knownTo, (tk_7 232 (by decide +kernel) rfl), (sp_5 15 (q := (⟨"PacedMapModel", "knownTo", "(IZI)Z"⟩, 50)) rfl)⟩
theorem mb_Mo_aPlace : MLb M_Mo_aPlace 0 := ⟨tk_7 183 rfl rfl, (tk_1 15 (by decide +kernel) rfl), ⟨by decide +kernel, by decide +kernel⟩, by decide +kernel, by decide⟩
theorem mv_Mo_aPlace : MLv M_Mo_aPlace 0 := ⟨mb_Mo_aPlace, (tk_7 182 (by decide +kernel) rfl), (sp_5 4 (q := (⟨"PacedMapModel", "aPlace", "()Z"⟩, 50)) rfl)⟩
theorem mb_Mo_aWalker : MLb M_Mo_aWalker 0 := ⟨tk_7 211 rfl rfl, (tk_1 15 (by decide +kernel) rfl), ⟨by decide +kernel, by decide +kernel⟩, by decide +kernel, by decide⟩
theorem mv_Mo_aWalker : MLv M_Mo_aWalker 0 := ⟨mb_Mo_aWalker, (tk_7 210 (by decide +kernel) rfl), (sp_5 11 (q := (⟨"PacedMapModel", "aWalker", "()Z"⟩, 50)) rfl)⟩
theorem mb_Mo_paced : MLb M_Mo_paced 3 := ⟨tk_7 237 rfl rfl, (tk_1 15 (by decide +kernel) rfl), ⟨by decide +kernel, by decide +kernel⟩, by decide +kernel, by decide⟩
theorem mv_Mo_paced : MLv M_Mo_paced 3 := ⟨mb_Mo_paced, (tk_7 236 (by decide +kernel) rfl), (sp_6 0 (q := (⟨"PacedMapModel", "paced", "(III)Z"⟩, 50)) rfl)⟩
theorem mb_Mo_aLeg : MLb M_Mo_aLeg 0 := ⟨tk_7 226 rfl rfl, (tk_1 15 (by decide +kernel) rfl), ⟨by decide +kernel, by decide +kernel⟩, by decide +kernel, by decide⟩
theorem mv_Mo_aLeg : MLv M_Mo_aLeg 0 := ⟨mb_Mo_aLeg, (tk_7 225 (by decide +kernel) rfl), (sp_5 14 (q := (⟨"PacedMapModel", "aLeg", "()Z"⟩, 50)) rfl)⟩
theorem mb_Mo_townPart : MLb M_Mo_townPart 0 := ⟨tk_7 168 rfl rfl, (tk_1 15 (by decide +kernel) rfl), ⟨by decide +kernel, by decide +kernel⟩, by decide +kernel, by decide⟩
theorem mv_Mo_townPart : MLv M_Mo_townPart 0 := ⟨mb_Mo_townPart, (tk_7 167 (by decide +kernel) rfl), (sp_5 1 (q := (⟨"PacedMapModel", "townPart", "()Z"⟩, 50)) rfl)⟩
theorem mb_Mo_town : MLb M_Mo_town 1 := ⟨tk_7 140 rfl rfl, (tk_1 15 (by decide +kernel) rfl), ⟨by decide +kernel, by decide +kernel⟩, by decide +kernel, by decide⟩
theorem mv_Mo_town : MLv M_Mo_town 1 := ⟨mb_Mo_town, (tk_7 138 (by decide +kernel) rfl), (tk_7 139 (by decide +kernel) rfl)⟩
theorem mb_Mo_test : MLb M_Mo_test 1 := ⟨tk_8 21 rfl rfl, (tk_1 15 (by decide +kernel) rfl), ⟨by decide +kernel, by decide +kernel⟩, by decide +kernel, by decide⟩
theorem mv_Mo_test : MLv M_Mo_test 1 := ⟨mb_Mo_test, (tk_8 20 (by decide +kernel) rfl), (sp_6 5 (q := (⟨"PacedMapModel", "test", "(I)Z"⟩, 50)) rfl)⟩
theorem mb_Mo_dayOrder : MLb M_Mo_dayOrder 2 := ⟨tk_8 17 rfl rfl, (tk_1 15 (by decide +kernel) rfl), ⟨by decide +kernel, by decide +kernel⟩, by decide +kernel, by decide⟩
theorem mv_Mo_dayOrder : MLv M_Mo_dayOrder 2 := ⟨mb_Mo_dayOrder, (tk_8 16 (by decide +kernel) rfl), (sp_6 4 (q := (⟨"PacedMapModel", "dayOrder", "(II)Z"⟩, 50)) rfl)⟩
theorem mb_Mo_dayStep : MLb M_Mo_dayStep 0 := ⟨tk_8 13 rfl rfl, (tk_1 15 (by decide +kernel) rfl), ⟨by decide +kernel, by decide +kernel⟩, by decide +kernel, by decide⟩
theorem mv_Mo_dayStep : MLv M_Mo_dayStep 0 := ⟨mb_Mo_dayStep, (tk_8 12 (by decide +kernel) rfl), (sp_6 3 (q := (⟨"PacedMapModel", "dayStep", "()Z"⟩, 50)) rfl)⟩
theorem mb_Mo_days : MLb M_Mo_days 1 := ⟨tk_8 9 rfl rfl, (tk_1 15 (by decide +kernel) rfl), ⟨by decide +kernel, by decide +kernel⟩, by decide +kernel, by decide⟩
theorem mv_Mo_days : MLv M_Mo_days 1 := ⟨mb_Mo_days, (tk_8 7 (by decide +kernel) rfl), (tk_8 8 (by decide +kernel) rfl)⟩
theorem mb_Mo_isPlace : MLb M_Mo_isPlace 1 := ⟨tk_8 125 rfl rfl, (tk_1 15 (by decide +kernel) rfl), ⟨by decide +kernel, by decide +kernel⟩, by decide +kernel, by decide⟩
theorem mv_Mo_isPlace : MLv M_Mo_isPlace 1 := ⟨mb_Mo_isPlace, (tk_8 124 (by decide +kernel) rfl), (sp_7 10 (q := (⟨"PacedMapModel", "isPlace", "(I)Z"⟩, 50)) rfl)⟩
theorem mb_Mo_isWalker : MLb M_Mo_isWalker 1 := ⟨tk_8 105 rfl rfl, (tk_1 15 (by decide +kernel) rfl), ⟨by decide +kernel, by decide +kernel⟩, by decide +kernel, by decide⟩
theorem mv_Mo_isWalker : MLv M_Mo_isWalker 1 := ⟨mb_Mo_isWalker, (tk_8 104 (by decide +kernel) rfl), (sp_7 7 (q := (⟨"PacedMapModel", "isWalker", "(I)Z"⟩, 50)) rfl)⟩
theorem mb_Mo_isLeg : MLb M_Mo_isLeg 1 := ⟨tk_8 117 rfl rfl, (tk_1 15 (by decide +kernel) rfl), ⟨by decide +kernel, by decide +kernel⟩, by decide +kernel, by decide⟩
theorem mv_Mo_isLeg : MLv M_Mo_isLeg 1 := ⟨mb_Mo_isLeg, (tk_8 116 (by decide +kernel) rfl), (sp_7 9 (q := (⟨"PacedMapModel", "isLeg", "(I)Z"⟩, 50)) rfl)⟩
theorem mb_Mo_areTwo : MLb M_Mo_areTwo 2 := ⟨tk_8 141 rfl rfl, (tk_1 15 (by decide +kernel) rfl), ⟨by decide +kernel, by decide +kernel⟩, by decide +kernel, by decide⟩
theorem mv_Mo_areTwo : MLv M_Mo_areTwo 2 := ⟨mb_Mo_areTwo, (tk_8 140 (by decide +kernel) rfl), (sp_7 11 (q := (⟨"PacedMapModel", "areTwo", "(II)Z"⟩, 50)) rfl)⟩
theorem mb_Mo_bits : MLb M_Mo_bits 1 := ⟨tk_8 161 rfl rfl, (tk_1 15 (by decide +kernel) rfl), ⟨by decide +kernel, by decide +kernel⟩, by decide +kernel, by decide⟩
theorem ms_Mo_bits : MLs M_Mo_bits 1 := ⟨mb_Mo_bits, (tk_8 160 (by decide +kernel) rfl)⟩
theorem mb_Mo_legOf : MLb M_Mo_legOf 2 := ⟨tk_8 53 rfl rfl, (tk_1 15 (by decide +kernel) rfl), ⟨by decide +kernel, by decide +kernel⟩, by decide +kernel, by decide⟩
theorem mv_Mo_legOf : MLv M_Mo_legOf 2 := ⟨mb_Mo_legOf, (tk_8 52 (by decide +kernel) rfl), (sp_6 12 (q := (⟨"PacedMapModel", "legOf", "(II)I"⟩, 50)) rfl)⟩
theorem mb_Mo_walkerOf : MLb M_Mo_walkerOf 2 := ⟨tk_8 69 rfl rfl, (tk_1 15 (by decide +kernel) rfl), ⟨by decide +kernel, by decide +kernel⟩, by decide +kernel, by decide⟩
theorem mv_Mo_walkerOf : MLv M_Mo_walkerOf 2 := ⟨mb_Mo_walkerOf, (tk_8 68 (by decide +kernel) rfl), (sp_7 0 (q := (⟨"PacedMapModel", "walkerOf", "(II)I"⟩, 50)) rfl)⟩
theorem mb_Mo_counts : MLb M_Mo_counts 1 := ⟨tk_8 57 rfl rfl, (tk_1 15 (by decide +kernel) rfl), ⟨by decide +kernel, by decide +kernel⟩, by decide +kernel, by decide⟩
theorem mv_Mo_counts : MLv M_Mo_counts 1 := ⟨mb_Mo_counts, (tk_8 56 (by decide +kernel) rfl), (sp_6 13 (q := (⟨"PacedMapModel", "counts", "(I)Z"⟩, 50)) rfl)⟩
theorem mb_Mo_plainly : MLb M_Mo_plainly 1 := ⟨tk_8 80 rfl rfl, (tk_1 15 (by decide +kernel) rfl), ⟨by decide +kernel, by decide +kernel⟩, by decide +kernel, by decide⟩
theorem ms_Mo_plainly : MLs M_Mo_plainly 1 := ⟨mb_Mo_plainly, (tk_8 79 (by decide +kernel) rfl)⟩
theorem mb_Mo_right : MLb M_Mo_right 2 := ⟨tk_8 65 rfl rfl, (tk_1 15 (by decide +kernel) rfl), ⟨by decide +kernel, by decide +kernel⟩, by decide +kernel, by decide⟩
theorem mv_Mo_right : MLv M_Mo_right 2 := ⟨mb_Mo_right, (tk_8 64 (by decide +kernel) rfl), (sp_6 15 (q := (⟨"PacedMapModel", "right", "(IZ)I"⟩, 50)) rfl)⟩
theorem mb_Mo_yardsOf : MLb M_Mo_yardsOf 1 := ⟨tk_8 194 rfl rfl, (tk_1 15 (by decide +kernel) rfl), ⟨by decide +kernel, by decide +kernel⟩, by decide +kernel, by decide⟩
theorem mv_Mo_yardsOf : MLv M_Mo_yardsOf 1 := ⟨mb_Mo_yardsOf, (tk_8 193 (by decide +kernel) rfl), (sp_8 0 (q := (⟨"PacedMapModel", "yardsOf", "(I)I"⟩, 50)) rfl)⟩
theorem mb_Mo_isLying : MLb M_Mo_isLying 1 := ⟨tk_8 41 rfl rfl, (tk_1 15 (by decide +kernel) rfl), ⟨by decide +kernel, by decide +kernel⟩, by decide +kernel, by decide⟩
theorem mv_Mo_isLying : MLv M_Mo_isLying 1 := ⟨mb_Mo_isLying, (tk_8 40 (by decide +kernel) rfl), (sp_6 9 (q := (⟨"PacedMapModel", "isLying", "(I)Z"⟩, 50)) rfl)⟩
theorem mb_Mo_lays : MLb M_Mo_lays 1 := ⟨tk_8 49 rfl rfl, (tk_1 15 (by decide +kernel) rfl), ⟨by decide +kernel, by decide +kernel⟩, by decide +kernel, by decide⟩
theorem mv_Mo_lays : MLv M_Mo_lays 1 := ⟨mb_Mo_lays, (tk_8 48 (by decide +kernel) rfl), (sp_6 11 (q := (⟨"PacedMapModel", "lays", "(I)Z"⟩, 50)) rfl)⟩
theorem mb_Mo_spreads : MLb M_Mo_spreads 0 := ⟨tk_8 45 rfl rfl, (tk_1 15 (by decide +kernel) rfl), ⟨by decide +kernel, by decide +kernel⟩, by decide +kernel, by decide⟩
theorem mv_Mo_spreads : MLv M_Mo_spreads 0 := ⟨mb_Mo_spreads, (tk_8 44 (by decide +kernel) rfl), (sp_6 10 (q := (⟨"PacedMapModel", "spreads", "()V"⟩, 50)) rfl)⟩
theorem mb_Mo_laysOut : MLb M_Mo_laysOut 1 := ⟨tk_8 37 rfl rfl, (tk_1 15 (by decide +kernel) rfl), ⟨by decide +kernel, by decide +kernel⟩, by decide +kernel, by decide⟩
theorem mv_Mo_laysOut : MLv M_Mo_laysOut 1 := ⟨mb_Mo_laysOut, (tk_8 36 (by decide +kernel) rfl), (sp_6 8 (q := (⟨"PacedMapModel", "laysOut", "(Z)V"⟩, 50)) rfl)⟩
theorem mb_Mo_missOf : MLb M_Mo_missOf 1 := ⟨tk_8 77 rfl rfl, (tk_1 15 (by decide +kernel) rfl), ⟨by decide +kernel, by decide +kernel⟩, by decide +kernel, by decide⟩
theorem mv_Mo_missOf : MLv M_Mo_missOf 1 := ⟨mb_Mo_missOf, (tk_8 76 (by decide +kernel) rfl), (sp_7 2 (q := (⟨"PacedMapModel", "missOf", "(I)I"⟩, 50)) rfl)⟩
theorem mb_Mo_missing : MLb M_Mo_missing 0 := ⟨tk_8 73 rfl rfl, (tk_1 15 (by decide +kernel) rfl), ⟨by decide +kernel, by decide +kernel⟩, by decide +kernel, by decide⟩
theorem mv_Mo_missing : MLv M_Mo_missing 0 := ⟨mb_Mo_missing, (tk_8 72 (by decide +kernel) rfl), (sp_7 1 (q := (⟨"PacedMapModel", "missing", "()I"⟩, 50)) rfl)⟩
theorem mb_Mo_isClosed : MLb M_Mo_isClosed 0 := ⟨tk_8 97 rfl rfl, (tk_1 15 (by decide +kernel) rfl), ⟨by decide +kernel, by decide +kernel⟩, by decide +kernel, by decide⟩
theorem mv_Mo_isClosed : MLv M_Mo_isClosed 0 := ⟨mb_Mo_isClosed, (tk_8 96 (by decide +kernel) rfl), (sp_7 6 (q := (⟨"PacedMapModel", "isClosed", "()Z"⟩, 50)) rfl)⟩
theorem mb_Mo_parts : MLb M_Mo_parts 0 := ⟨tk_8 89 rfl rfl, (tk_1 15 (by decide +kernel) rfl), ⟨by decide +kernel, by decide +kernel⟩, by decide +kernel, by decide⟩
theorem mv_Mo_parts : MLv M_Mo_parts 0 := ⟨mb_Mo_parts, (tk_8 88 (by decide +kernel) rfl), (sp_7 4 (q := (⟨"PacedMapModel", "parts", "()I"⟩, 50)) rfl)⟩
theorem mb_Mo_legsThere : MLb M_Mo_legsThere 0 := ⟨tk_8 93 rfl rfl, (tk_1 15 (by decide +kernel) rfl), ⟨by decide +kernel, by decide +kernel⟩, by decide +kernel, by decide⟩
theorem mv_Mo_legsThere : MLv M_Mo_legsThere 0 := ⟨mb_Mo_legsThere, (tk_8 92 (by decide +kernel) rfl), (sp_7 5 (q := (⟨"PacedMapModel", "legsThere", "()I"⟩, 50)) rfl)⟩
theorem mb_Mo_lying : MLb M_Mo_lying 0 := ⟨tk_8 33 rfl rfl, (tk_1 15 (by decide +kernel) rfl), ⟨by decide +kernel, by decide +kernel⟩, by decide +kernel, by decide⟩
theorem mv_Mo_lying : MLv M_Mo_lying 0 := ⟨mb_Mo_lying, (tk_8 32 (by decide +kernel) rfl), (sp_6 7 (q := (⟨"PacedMapModel", "lying", "()I"⟩, 50)) rfl)⟩
theorem mb_Mo_bridges : MLb M_Mo_bridges 0 := ⟨tk_8 85 rfl rfl, (tk_1 15 (by decide +kernel) rfl), ⟨by decide +kernel, by decide +kernel⟩, by decide +kernel, by decide⟩
theorem mv_Mo_bridges : MLv M_Mo_bridges 0 := ⟨mb_Mo_bridges, (tk_8 84 (by decide +kernel) rfl), (sp_7 3 (q := (⟨"PacedMapModel", "bridges", "()I"⟩, 50)) rfl)⟩
theorem mb_Mo_told : MLb M_Mo_told 1 := ⟨tk_8 25 rfl rfl, (tk_1 15 (by decide +kernel) rfl), ⟨by decide +kernel, by decide +kernel⟩, by decide +kernel, by decide⟩
theorem mv_Mo_told : MLv M_Mo_told 1 := ⟨mb_Mo_told, (tk_8 23 (by decide +kernel) rfl), (tk_8 24 (by decide +kernel) rfl)⟩
theorem mb_Mo_faultOf : MLb M_Mo_faultOf 1 := ⟨tk_8 109 rfl rfl, (tk_1 15 (by decide +kernel) rfl), ⟨by decide +kernel, by decide +kernel⟩, by decide +kernel, by decide⟩
theorem mv_Mo_faultOf : MLv M_Mo_faultOf 1 := ⟨mb_Mo_faultOf, (tk_8 108 (by decide +kernel) rfl), (sp_7 8 (q := (⟨"PacedMapModel", "faultOf", "(I)I"⟩, 50)) rfl)⟩
theorem mb_Mo_walker : MLb M_Mo_walker 2 := ⟨tk_8 101 rfl rfl, (tk_1 15 (by decide +kernel) rfl), ⟨by decide +kernel, by decide +kernel⟩, by decide +kernel, by decide⟩
theorem mv_Mo_walker : MLv M_Mo_walker 2 := ⟨mb_Mo_walker, (tk_8 99 (by decide +kernel) rfl), (tk_8 100 (by decide +kernel) rfl)⟩
theorem mb_Mo_leg : MLb M_Mo_leg 2 := ⟨tk_8 113 rfl rfl, (tk_1 15 (by decide +kernel) rfl), ⟨by decide +kernel, by decide +kernel⟩, by decide +kernel, by decide⟩
theorem mv_Mo_leg : MLv M_Mo_leg 2 := ⟨mb_Mo_leg, (tk_8 111 (by decide +kernel) rfl), (tk_8 112 (by decide +kernel) rfl)⟩
theorem mb_Mo_place : MLb M_Mo_place 2 := ⟨tk_8 121 rfl rfl, (tk_1 15 (by decide +kernel) rfl), ⟨by decide +kernel, by decide +kernel⟩, by decide +kernel, by decide⟩
theorem mv_Mo_place : MLv M_Mo_place 2 := ⟨mb_Mo_place, (tk_8 119 (by decide +kernel) rfl), (tk_8 120 (by decide +kernel) rfl)⟩
theorem mb_Mo_apart : MLb M_Mo_apart 2 := ⟨tk_8 129 rfl rfl, (tk_1 15 (by decide +kernel) rfl), ⟨by decide +kernel, by decide +kernel⟩, by decide +kernel, by decide⟩
theorem mv_Mo_apart : MLv M_Mo_apart 2 := ⟨mb_Mo_apart, (tk_8 127 (by decide +kernel) rfl), (tk_8 128 (by decide +kernel) rfl)⟩
theorem mb_Mo_joined : MLb M_Mo_joined 2 := ⟨tk_8 133 rfl rfl, (tk_1 15 (by decide +kernel) rfl), ⟨by decide +kernel, by decide +kernel⟩, by decide +kernel, by decide⟩
theorem mv_Mo_joined : MLv M_Mo_joined 2 := ⟨mb_Mo_joined, (tk_8 131 (by decide +kernel) rfl), (tk_8 132 (by decide +kernel) rfl)⟩
theorem mb_Mo_pace : MLb M_Mo_pace 5 := ⟨tk_8 137 rfl rfl, (tk_1 15 (by decide +kernel) rfl), ⟨by decide +kernel, by decide +kernel⟩, by decide +kernel, by decide⟩
theorem mv_Mo_pace : MLv M_Mo_pace 5 := ⟨mb_Mo_pace, (tk_8 135 (by decide +kernel) rfl), (tk_8 136 (by decide +kernel) rfl)⟩
theorem mb_Mo_tell : MLb M_Mo_tell 3 := ⟨tk_8 150 rfl rfl, (tk_1 15 (by decide +kernel) rfl), ⟨by decide +kernel, by decide +kernel⟩, by decide +kernel, by decide⟩
theorem mv_Mo_tell : MLv M_Mo_tell 3 := ⟨mb_Mo_tell, (tk_8 148 (by decide +kernel) rfl), (tk_8 149 (by decide +kernel) rfl)⟩
theorem mb_Mo_strikes : MLb M_Mo_strikes 1 := ⟨tk_8 158 rfl rfl, (tk_1 15 (by decide +kernel) rfl), ⟨by decide +kernel, by decide +kernel⟩, by decide +kernel, by decide⟩
theorem mv_Mo_strikes : MLv M_Mo_strikes 1 := ⟨mb_Mo_strikes, (tk_8 157 (by decide +kernel) rfl), (sp_7 12 (q := (⟨"PacedMapModel", "strikes", "(I)Z"⟩, 50)) rfl)⟩
theorem mb_Mo_restores1 : MLb M_Mo_restores1 1 := ⟨tk_8 169 rfl rfl, (tk_1 15 (by decide +kernel) rfl), ⟨by decide +kernel, by decide +kernel⟩, by decide +kernel, by decide⟩
theorem mv_Mo_restores1 : MLv M_Mo_restores1 1 := ⟨mb_Mo_restores1, (tk_8 168 (by decide +kernel) rfl), (sp_7 13 (q := (⟨"PacedMapModel", "restores1", "(I)Z"⟩, 50)) rfl)⟩
theorem mb_Mo_strike : MLb M_Mo_strike 1 := ⟨tk_8 154 rfl rfl, (tk_1 15 (by decide +kernel) rfl), ⟨by decide +kernel, by decide +kernel⟩, by decide +kernel, by decide⟩
theorem mv_Mo_strike : MLv M_Mo_strike 1 := ⟨mb_Mo_strike, (tk_8 152 (by decide +kernel) rfl), (tk_8 153 (by decide +kernel) rfl)⟩
theorem mb_Mo_restore : MLb M_Mo_restore 1 := ⟨tk_8 165 rfl rfl, (tk_1 15 (by decide +kernel) rfl), ⟨by decide +kernel, by decide +kernel⟩, by decide +kernel, by decide⟩
theorem mv_Mo_restore : MLv M_Mo_restore 1 := ⟨mb_Mo_restore, (tk_8 163 (by decide +kernel) rfl), (tk_8 164 (by decide +kernel) rfl)⟩
theorem mb_Mo_believes : MLb M_Mo_believes 2 := ⟨tk_8 178 rfl rfl, (tk_1 15 (by decide +kernel) rfl), ⟨by decide +kernel, by decide +kernel⟩, by decide +kernel, by decide⟩
theorem mv_Mo_believes : MLv M_Mo_believes 2 := ⟨mb_Mo_believes, (tk_8 177 (by decide +kernel) rfl), (sp_7 14 (q := (⟨"PacedMapModel", "believes", "(II)V"⟩, 50)) rfl)⟩
theorem mb_Mo_believe : MLb M_Mo_believe 2 := ⟨tk_8 173 rfl rfl, (tk_1 15 (by decide +kernel) rfl), ⟨by decide +kernel, by decide +kernel⟩, by decide +kernel, by decide⟩
theorem mv_Mo_believe : MLv M_Mo_believe 2 := ⟨mb_Mo_believe, (tk_8 171 (by decide +kernel) rfl), (tk_8 172 (by decide +kernel) rfl)⟩
theorem mb_Mo_settle : MLb M_Mo_settle 0 := ⟨tk_8 182 rfl rfl, (tk_1 15 (by decide +kernel) rfl), ⟨by decide +kernel, by decide +kernel⟩, by decide +kernel, by decide⟩
theorem mv_Mo_settle : MLv M_Mo_settle 0 := ⟨mb_Mo_settle, (tk_8 180 (by decide +kernel) rfl), (tk_8 181 (by decide +kernel) rfl)⟩
theorem mb_Mo_goesAlong : MLb M_Mo_goesAlong 1 := ⟨tk_8 190 rfl rfl, (tk_1 15 (by decide +kernel) rfl), ⟨by decide +kernel, by decide +kernel⟩, by decide +kernel, by decide⟩
theorem mv_Mo_goesAlong : MLv M_Mo_goesAlong 1 := ⟨mb_Mo_goesAlong, (tk_8 189 (by decide +kernel) rfl), (sp_7 15 (q := (⟨"PacedMapModel", "goesAlong", "(I)Z"⟩, 50)) rfl)⟩
theorem mb_Mo_go : MLb M_Mo_go 1 := ⟨tk_8 186 rfl rfl, (tk_1 15 (by decide +kernel) rfl), ⟨by decide +kernel, by decide +kernel⟩, by decide +kernel, by decide⟩
theorem mv_Mo_go : MLv M_Mo_go 1 := ⟨mb_Mo_go, (tk_8 184 (by decide +kernel) rfl), (tk_8 185 (by decide +kernel) rfl)⟩
theorem mb_Mo_rule : MLb M_Mo_rule 1 := ⟨tk_8 198 rfl rfl, (tk_1 15 (by decide +kernel) rfl), ⟨by decide +kernel, by decide +kernel⟩, by decide +kernel, by decide⟩
theorem mv_Mo_rule : MLv M_Mo_rule 1 := ⟨mb_Mo_rule, (tk_8 196 (by decide +kernel) rfl), (tk_8 197 (by decide +kernel) rfl)⟩
theorem mb_Mo_outBy : MLb M_Mo_outBy 1 := ⟨tk_8 211 rfl rfl, (tk_1 15 (by decide +kernel) rfl), ⟨by decide +kernel, by decide +kernel⟩, by decide +kernel, by decide⟩
theorem mv_Mo_outBy : MLv M_Mo_outBy 1 := ⟨mb_Mo_outBy, (tk_8 210 (by decide +kernel) rfl), (sp_8 2 (q := (⟨"PacedMapModel", "outBy", "(I)I"⟩, 50)) rfl)⟩
theorem mb_Mo_outOf : MLb M_Mo_outOf 0 := ⟨tk_8 207 rfl rfl, (tk_1 15 (by decide +kernel) rfl), ⟨by decide +kernel, by decide +kernel⟩, by decide +kernel, by decide⟩
theorem mv_Mo_outOf : MLv M_Mo_outOf 0 := ⟨mb_Mo_outOf, (tk_8 206 (by decide +kernel) rfl), (sp_8 1 (q := (⟨"PacedMapModel", "outOf", "()I"⟩, 50)) rfl)⟩
theorem mb_Mo_out : MLb M_Mo_out 0 := ⟨tk_8 203 rfl rfl, (tk_1 15 (by decide +kernel) rfl), ⟨by decide +kernel, by decide +kernel⟩, by decide +kernel, by decide⟩
theorem mv_Mo_out : MLv M_Mo_out 0 := ⟨mb_Mo_out, (tk_8 201 (by decide +kernel) rfl), (tk_8 202 (by decide +kernel) rfl)⟩
theorem mb_Mo_outSet : MLb M_Mo_outSet 0 := ⟨tk_8 215 rfl rfl, (tk_1 15 (by decide +kernel) rfl), ⟨by decide +kernel, by decide +kernel⟩, by decide +kernel, by decide⟩
theorem mv_Mo_outSet : MLv M_Mo_outSet 0 := ⟨mb_Mo_outSet, (tk_8 213 (by decide +kernel) rfl), (tk_8 214 (by decide +kernel) rfl)⟩
theorem mb_Mo_isSet : MLb M_Mo_isSet 1 := ⟨tk_8 223 rfl rfl, (tk_1 15 (by decide +kernel) rfl), ⟨by decide +kernel, by decide +kernel⟩, by decide +kernel, by decide⟩
theorem mv_Mo_isSet : MLv M_Mo_isSet 1 := ⟨mb_Mo_isSet, (tk_8 222 (by decide +kernel) rfl), (sp_8 3 (q := (⟨"PacedMapModel", "isSet", "(I)Z"⟩, 50)) rfl)⟩
theorem mb_Mo_laysWays : MLb M_Mo_laysWays 1 := ⟨tk_8 227 rfl rfl, (tk_1 15 (by decide +kernel) rfl), ⟨by decide +kernel, by decide +kernel⟩, by decide +kernel, by decide⟩
theorem mv_Mo_laysWays : MLv M_Mo_laysWays 1 := ⟨mb_Mo_laysWays, (tk_8 226 (by decide +kernel) rfl), (sp_8 4 (q := (⟨"PacedMapModel", "laysWays", "(I)V"⟩, 50)) rfl)⟩
theorem mb_Mo_faultIn : MLb M_Mo_faultIn 2 := ⟨tk_8 235 rfl rfl, (tk_1 15 (by decide +kernel) rfl), ⟨by decide +kernel, by decide +kernel⟩, by decide +kernel, by decide⟩
theorem mv_Mo_faultIn : MLv M_Mo_faultIn 2 := ⟨mb_Mo_faultIn, (tk_8 234 (by decide +kernel) rfl), (sp_8 5 (q := (⟨"PacedMapModel", "faultIn", "(II)I"⟩, 50)) rfl)⟩
theorem mb_Mo_fits : MLb M_Mo_fits 1 := ⟨tk_8 219 rfl rfl, (tk_1 15 (by decide +kernel) rfl), ⟨by decide +kernel, by decide +kernel⟩, by decide +kernel, by decide⟩
theorem mv_Mo_fits : MLv M_Mo_fits 1 := ⟨mb_Mo_fits, (tk_8 217 (by decide +kernel) rfl), (tk_8 218 (by decide +kernel) rfl)⟩
theorem mb_Mo_firstFault : MLb M_Mo_firstFault 2 := ⟨tk_8 231 rfl rfl, (tk_1 15 (by decide +kernel) rfl), ⟨by decide +kernel, by decide +kernel⟩, by decide +kernel, by decide⟩
theorem mv_Mo_firstFault : MLv M_Mo_firstFault 2 := ⟨mb_Mo_firstFault, (tk_8 229 (by decide +kernel) rfl), (tk_8 230 (by decide +kernel) rfl)⟩
theorem mb_Mo_oddsThat : MLb M_Mo_oddsThat 3 := ⟨tk_8 239 rfl rfl, (tk_1 15 (by decide +kernel) rfl), ⟨by decide +kernel, by decide +kernel⟩, by decide +kernel, by decide⟩
theorem mv_Mo_oddsThat : MLv M_Mo_oddsThat 3 := ⟨mb_Mo_oddsThat, (tk_8 237 (by decide +kernel) rfl), (tk_8 238 (by decide +kernel) rfl)⟩
theorem mb_Mo_isSameIn : MLb M_Mo_isSameIn 4 := ⟨tk_9 15 rfl rfl, (tk_1 15 (by decide +kernel) rfl), ⟨by decide +kernel, by decide +kernel⟩, by decide +kernel, by decide⟩
theorem mv_Mo_isSameIn : MLv M_Mo_isSameIn 4 := ⟨mb_Mo_isSameIn, (tk_9 14 (by decide +kernel) rfl), (sp_8 8 (q := (⟨"PacedMapModel", "isSameIn", "(IIII)Z"⟩, 50)) rfl)⟩
theorem mb_Mo_mostAlike : MLb M_Mo_mostAlike 2 := ⟨tk_9 11 rfl rfl, (tk_1 15 (by decide +kernel) rfl), ⟨by decide +kernel, by decide +kernel⟩, by decide +kernel, by decide⟩
theorem mv_Mo_mostAlike : MLv M_Mo_mostAlike 2 := ⟨mb_Mo_mostAlike, (tk_9 10 (by decide +kernel) rfl), (sp_8 7 (q := (⟨"PacedMapModel", "mostAlike", "(II)I"⟩, 50)) rfl)⟩
theorem mb_Mo_ask : MLb M_Mo_ask 2 := ⟨tk_9 7 rfl rfl, (tk_1 15 (by decide +kernel) rfl), ⟨by decide +kernel, by decide +kernel⟩, by decide +kernel, by decide⟩
theorem mv_Mo_ask : MLv M_Mo_ask 2 := ⟨mb_Mo_ask, (tk_9 5 (by decide +kernel) rfl), (tk_9 6 (by decide +kernel) rfl)⟩
theorem mb_Mo_otherEnd : MLb M_Mo_otherEnd 2 := ⟨tk_9 44 rfl rfl, (tk_1 15 (by decide +kernel) rfl), ⟨by decide +kernel, by decide +kernel⟩, by decide +kernel, by decide⟩
theorem mv_Mo_otherEnd : MLv M_Mo_otherEnd 2 := ⟨mb_Mo_otherEnd, (tk_9 43 (by decide +kernel) rfl), (sp_8 13 (q := (⟨"PacedMapModel", "otherEnd", "(II)I"⟩, 50)) rfl)⟩
theorem mb_Mo_laysFar : MLb M_Mo_laysFar 1 := ⟨tk_9 23 rfl rfl, (tk_1 15 (by decide +kernel) rfl), ⟨by decide +kernel, by decide +kernel⟩, by decide +kernel, by decide⟩
theorem mv_Mo_laysFar : MLv M_Mo_laysFar 1 := ⟨mb_Mo_laysFar, (tk_9 22 (by decide +kernel) rfl), (sp_8 9 (q := (⟨"PacedMapModel", "laysFar", "(I)V"⟩, 50)) rfl)⟩
theorem mb_Mo_betweenBy : MLb M_Mo_betweenBy 2 := ⟨tk_9 40 rfl rfl, (tk_1 15 (by decide +kernel) rfl), ⟨by decide +kernel, by decide +kernel⟩, by decide +kernel, by decide⟩
theorem mv_Mo_betweenBy : MLv M_Mo_betweenBy 2 := ⟨mb_Mo_betweenBy, (tk_9 39 (by decide +kernel) rfl), (sp_8 12 (q := (⟨"PacedMapModel", "betweenBy", "(II)I"⟩, 50)) rfl)⟩
theorem mb_Mo_isTried : MLb M_Mo_isTried 2 := ⟨tk_9 36 rfl rfl, (tk_1 15 (by decide +kernel) rfl), ⟨by decide +kernel, by decide +kernel⟩, by decide +kernel, by decide⟩
theorem mv_Mo_isTried : MLv M_Mo_isTried 2 := ⟨mb_Mo_isTried, (tk_9 35 (by decide +kernel) rfl), (sp_8 11 (q := (⟨"PacedMapModel", "isTried", "(II)Z"⟩, 50)) rfl)⟩
theorem mb_Mo_laysRow : MLb M_Mo_laysRow 2 := ⟨tk_9 32 rfl rfl, (tk_1 15 (by decide +kernel) rfl), ⟨by decide +kernel, by decide +kernel⟩, by decide +kernel, by decide⟩
theorem mv_Mo_laysRow : MLv M_Mo_laysRow 2 := ⟨mb_Mo_laysRow, (tk_9 31 (by decide +kernel) rfl), (sp_8 10 (q := (⟨"PacedMapModel", "laysRow", "(II)V"⟩, 50)) rfl)⟩
theorem mb_Mo_way : MLb M_Mo_way 2 := ⟨tk_9 19 rfl rfl, (tk_1 15 (by decide +kernel) rfl), ⟨by decide +kernel, by decide +kernel⟩, by decide +kernel, by decide⟩
theorem mv_Mo_way : MLv M_Mo_way 2 := ⟨mb_Mo_way, (tk_9 17 (by decide +kernel) rfl), (tk_9 18 (by decide +kernel) rfl)⟩
theorem mb_Mo_wayAt : MLb M_Mo_wayAt 3 := ⟨tk_9 28 rfl rfl, (tk_1 15 (by decide +kernel) rfl), ⟨by decide +kernel, by decide +kernel⟩, by decide +kernel, by decide⟩
theorem mv_Mo_wayAt : MLv M_Mo_wayAt 3 := ⟨mb_Mo_wayAt, (tk_9 26 (by decide +kernel) rfl), (tk_9 27 (by decide +kernel) rfl)⟩
theorem mb_Mo_area : MLb M_Mo_area 2 := ⟨tk_9 48 rfl rfl, (tk_1 15 (by decide +kernel) rfl), ⟨by decide +kernel, by decide +kernel⟩, by decide +kernel, by decide⟩
theorem mv_Mo_area : MLv M_Mo_area 2 := ⟨mb_Mo_area, (tk_9 46 (by decide +kernel) rfl), (tk_9 47 (by decide +kernel) rfl)⟩
theorem mb_Mo_settles : MLb M_Mo_settles 2 := ⟨tk_9 68 rfl rfl, (tk_1 15 (by decide +kernel) rfl), ⟨by decide +kernel, by decide +kernel⟩, by decide +kernel, by decide⟩
theorem mv_Mo_settles : MLv M_Mo_settles 2 := ⟨mb_Mo_settles, (tk_9 67 (by decide +kernel) rfl), (sp_9 0 (q := (⟨"PacedMapModel", "settles", "(II)V"⟩, 50)) rfl)⟩
theorem mb_Mo_beginsAt : MLb M_Mo_beginsAt 1 := ⟨tk_9 64 rfl rfl, (tk_1 15 (by decide +kernel) rfl), ⟨by decide +kernel, by decide +kernel⟩, by decide +kernel, by decide⟩
theorem mv_Mo_beginsAt : MLv M_Mo_beginsAt 1 := ⟨mb_Mo_beginsAt, (tk_9 63 (by decide +kernel) rfl), (sp_8 15 (q := (⟨"PacedMapModel", "beginsAt", "(I)V"⟩, 50)) rfl)⟩
theorem mb_Mo_playing : MLb M_Mo_playing 1 := ⟨tk_9 60 rfl rfl, (tk_1 15 (by decide +kernel) rfl), ⟨by decide +kernel, by decide +kernel⟩, by decide +kernel, by decide⟩
theorem mv_Mo_playing : MLv M_Mo_playing 1 := ⟨mb_Mo_playing, (tk_9 59 (by decide +kernel) rfl), (sp_8 14 (q := (⟨"PacedMapModel", "playing", "(I)I"⟩, 50)) rfl)⟩
theorem mb_Mo_game : MLb M_Mo_game 1 := ⟨tk_9 55 rfl rfl, (tk_1 15 (by decide +kernel) rfl), ⟨by decide +kernel, by decide +kernel⟩, by decide +kernel, by decide⟩
theorem mv_Mo_game : MLv M_Mo_game 1 := ⟨mb_Mo_game, (tk_9 53 (by decide +kernel) rfl), (tk_9 54 (by decide +kernel) rfl)⟩
theorem mb_Mo_moveOf : MLb M_Mo_moveOf 1 := ⟨tk_9 72 rfl rfl, (tk_1 15 (by decide +kernel) rfl), ⟨by decide +kernel, by decide +kernel⟩, by decide +kernel, by decide⟩
theorem mv_Mo_moveOf : MLv M_Mo_moveOf 1 := ⟨mb_Mo_moveOf, (tk_9 70 (by decide +kernel) rfl), (tk_9 71 (by decide +kernel) rfl)⟩
theorem mb_Mo_misread : MLb M_Mo_misread 2 := ⟨tk_9 76 rfl rfl, (tk_1 15 (by decide +kernel) rfl), ⟨by decide +kernel, by decide +kernel⟩, by decide +kernel, by decide⟩
theorem mv_Mo_misread : MLv M_Mo_misread 2 := ⟨mb_Mo_misread, (tk_9 74 (by decide +kernel) rfl), (tk_9 75 (by decide +kernel) rfl)⟩
theorem mb_Mo_share : MLb M_Mo_share 1 := ⟨tk_9 81 rfl rfl, (tk_1 15 (by decide +kernel) rfl), ⟨by decide +kernel, by decide +kernel⟩, by decide +kernel, by decide⟩
theorem mv_Mo_share : MLv M_Mo_share 1 := ⟨mb_Mo_share, (tk_9 79 (by decide +kernel) rfl), (tk_9 80 (by decide +kernel) rfl)⟩
theorem mb_Mo_copyPlaces : MLb M_Mo_copyPlaces 1 := ⟨tk_9 85 rfl rfl, (tk_1 15 (by decide +kernel) rfl), ⟨by decide +kernel, by decide +kernel⟩, by decide +kernel, by decide⟩
theorem mv_Mo_copyPlaces : MLv M_Mo_copyPlaces 1 := ⟨mb_Mo_copyPlaces, (tk_9 83 (by decide +kernel) rfl), (tk_9 84 (by decide +kernel) rfl)⟩
theorem mb_Mo_keeps : MLb M_Mo_keeps 1 := ⟨tk_9 135 rfl rfl, (tk_1 15 (by decide +kernel) rfl), ⟨by decide +kernel, by decide +kernel⟩, by decide +kernel, by decide⟩
theorem mv_Mo_keeps : MLv M_Mo_keeps 1 := ⟨mb_Mo_keeps, (tk_9 134 (by decide +kernel) rfl), (sp_9 9 (q := (⟨"PacedMapModel", "keeps", "(I)V"⟩, 50)) rfl)⟩
theorem mb_Mo_brings : MLb M_Mo_brings 1 := ⟨tk_9 139 rfl rfl, (tk_1 15 (by decide +kernel) rfl), ⟨by decide +kernel, by decide +kernel⟩, by decide +kernel, by decide⟩
theorem mv_Mo_brings : MLv M_Mo_brings 1 := ⟨mb_Mo_brings, (tk_9 138 (by decide +kernel) rfl), (sp_9 10 (q := (⟨"PacedMapModel", "brings", "(I)V"⟩, 50)) rfl)⟩
theorem mb_Mo_draw : MLb M_Mo_draw 1 := ⟨tk_9 114 rfl rfl, (tk_1 15 (by decide +kernel) rfl), ⟨by decide +kernel, by decide +kernel⟩, by decide +kernel, by decide⟩
theorem mv_Mo_draw : MLv M_Mo_draw 1 := ⟨mb_Mo_draw, (tk_9 113 (by decide +kernel) rfl), (sp_9 6 (q := (⟨"PacedMapModel", "draw", "(I)I"⟩, 50)) rfl)⟩
theorem mb_Mo_ranIf : MLb M_Mo_ranIf 2 := ⟨tk_9 102 rfl rfl, (tk_1 15 (by decide +kernel) rfl), ⟨by decide +kernel, by decide +kernel⟩, by decide +kernel, by decide⟩
theorem mv_Mo_ranIf : MLv M_Mo_ranIf 2 := ⟨mb_Mo_ranIf, (tk_9 101 (by decide +kernel) rfl), (sp_9 3 (q := (⟨"PacedMapModel", "ranIf", "(IZ)Z"⟩, 50)) rfl)⟩
theorem mb_Mo_doesAny : MLb M_Mo_doesAny 0 := ⟨tk_9 110 rfl rfl, (tk_1 15 (by decide +kernel) rfl), ⟨by decide +kernel, by decide +kernel⟩, by decide +kernel, by decide⟩
theorem mv_Mo_doesAny : MLv M_Mo_doesAny 0 := ⟨mb_Mo_doesAny, (tk_9 109 (by decide +kernel) rfl), (sp_9 5 (q := (⟨"PacedMapModel", "doesAny", "()Z"⟩, 50)) rfl)⟩
theorem mb_Mo_believesBy : MLb M_Mo_believesBy 2 := ⟨tk_9 106 rfl rfl, (tk_1 15 (by decide +kernel) rfl), ⟨by decide +kernel, by decide +kernel⟩, by decide +kernel, by decide⟩
theorem mv_Mo_believesBy : MLv M_Mo_believesBy 2 := ⟨mb_Mo_believesBy, (tk_9 105 (by decide +kernel) rfl), (sp_9 4 (q := (⟨"PacedMapModel", "believesBy", "(II)Z"⟩, 50)) rfl)⟩
theorem mb_Mo_does : MLb M_Mo_does 1 := ⟨tk_9 98 rfl rfl, (tk_1 15 (by decide +kernel) rfl), ⟨by decide +kernel, by decide +kernel⟩, by decide +kernel, by decide⟩
theorem mv_Mo_does : MLv M_Mo_does 1 := ⟨mb_Mo_does, (tk_9 97 (by decide +kernel) rfl), (sp_9 2 (q := (⟨"PacedMapModel", "does", "(I)Z"⟩, 50)) rfl)⟩
theorem mb_Mo_holds : MLb M_Mo_holds 1 := ⟨tk_9 119 rfl rfl, (tk_1 15 (by decide +kernel) rfl), ⟨by decide +kernel, by decide +kernel⟩, by decide +kernel, by decide⟩
theorem mv_Mo_holds : MLv M_Mo_holds 1 := ⟨mb_Mo_holds, (tk_9 118 (by decide +kernel) rfl), (sp_9 7 (q := (⟨"PacedMapModel", "holds", "(I)Z"⟩, 50)) rfl)⟩
theorem mb_Mo_behindEnds : MLb M_Mo_behindEnds 1 := ⟨tk_9 123 rfl rfl, (tk_1 15 (by decide +kernel) rfl), ⟨by decide +kernel, by decide +kernel⟩, by decide +kernel, by decide⟩
theorem mv_Mo_behindEnds : MLv M_Mo_behindEnds 1 := ⟨mb_Mo_behindEnds, (tk_9 122 (by decide +kernel) rfl), (sp_9 8 (q := (⟨"PacedMapModel", "behindEnds", "(I)I"⟩, 50)) rfl)⟩
theorem mb_Mo_lives : MLb M_Mo_lives 1 := ⟨tk_9 94 rfl rfl, (tk_1 15 (by decide +kernel) rfl), ⟨by decide +kernel, by decide +kernel⟩, by decide +kernel, by decide⟩
theorem mv_Mo_lives : MLv M_Mo_lives 1 := ⟨mb_Mo_lives, (tk_9 93 (by decide +kernel) rfl), (sp_9 1 (q := (⟨"PacedMapModel", "lives", "(I)V"⟩, 50)) rfl)⟩
theorem mb_Mo_live : MLb M_Mo_live 1 := ⟨tk_9 89 rfl rfl, (tk_1 15 (by decide +kernel) rfl), ⟨by decide +kernel, by decide +kernel⟩, by decide +kernel, by decide⟩
theorem mv_Mo_live : MLv M_Mo_live 1 := ⟨mb_Mo_live, (tk_9 87 (by decide +kernel) rfl), (tk_9 88 (by decide +kernel) rfl)⟩
theorem mb_Mo_lived : MLb M_Mo_lived 1 := ⟨tk_9 127 rfl rfl, (tk_1 15 (by decide +kernel) rfl), ⟨by decide +kernel, by decide +kernel⟩, by decide +kernel, by decide⟩
theorem mv_Mo_lived : MLv M_Mo_lived 1 := ⟨mb_Mo_lived, (tk_9 125 (by decide +kernel) rfl), (tk_9 126 (by decide +kernel) rfl)⟩
theorem mb_Mo_mean : MLb M_Mo_mean 2 := ⟨tk_9 131 rfl rfl, (tk_1 15 (by decide +kernel) rfl), ⟨by decide +kernel, by decide +kernel⟩, by decide +kernel, by decide⟩
theorem mv_Mo_mean : MLv M_Mo_mean 2 := ⟨mb_Mo_mean, (tk_9 129 (by decide +kernel) rfl), (tk_9 130 (by decide +kernel) rfl)⟩
theorem mb_Mo_copies : MLb M_Mo_copies 2 := ⟨tk_9 147 rfl rfl, (tk_1 15 (by decide +kernel) rfl), ⟨by decide +kernel, by decide +kernel⟩, by decide +kernel, by decide⟩
theorem mv_Mo_copies : MLv M_Mo_copies 2 := ⟨mb_Mo_copies, (tk_9 146 (by decide +kernel) rfl), (sp_9 11 (q := (⟨"PacedMapModel", "copies", "(II)V"⟩, 50)) rfl)⟩
theorem mb_Mo_mark : MLb M_Mo_mark 0 := ⟨tk_9 143 rfl rfl, (tk_1 15 (by decide +kernel) rfl), ⟨by decide +kernel, by decide +kernel⟩, by decide +kernel, by decide⟩
theorem mv_Mo_mark : MLv M_Mo_mark 0 := ⟨mb_Mo_mark, (tk_9 141 (by decide +kernel) rfl), (tk_9 142 (by decide +kernel) rfl)⟩
theorem mb_Mo_undo : MLb M_Mo_undo 0 := ⟨tk_9 151 rfl rfl, (tk_1 15 (by decide +kernel) rfl), ⟨by decide +kernel, by decide +kernel⟩, by decide +kernel, by decide⟩
theorem mv_Mo_undo : MLv M_Mo_undo 0 := ⟨mb_Mo_undo, (tk_9 149 (by decide +kernel) rfl), (tk_9 150 (by decide +kernel) rfl)⟩
theorem mb_JInt_bitCount : MLb M_JInt_bitCount 1 := ⟨tk_5 15 rfl rfl, (tk_1 21 (by decide +kernel) rfl), ⟨by decide +kernel, by decide +kernel⟩, by decide +kernel, by decide⟩
theorem ms_JInt_bitCount : MLs M_JInt_bitCount 1 := ⟨mb_JInt_bitCount, (tk_5 14 (by decide +kernel) rfl)⟩
theorem mb_JMath_absI : MLb M_JMath_absI 1 := ⟨tk_5 11 rfl rfl, (tk_1 18 (by decide +kernel) rfl), ⟨by decide +kernel, by decide +kernel⟩, by decide +kernel, by decide⟩
theorem ms_JMath_absI : MLs M_JMath_absI 1 := ⟨mb_JMath_absI, (tk_5 10 (by decide +kernel) rfl)⟩
theorem mb_JMath_absJ : MLb M_JMath_absJ 1 := ⟨tk_6 35 rfl rfl, (tk_1 18 (by decide +kernel) rfl), ⟨by decide +kernel, by decide +kernel⟩, by decide +kernel, by decide⟩
theorem ms_JMath_absJ : MLs M_JMath_absJ 1 := ⟨mb_JMath_absJ, (tk_6 34 (by decide +kernel) rfl)⟩
theorem mb_JMath_max : MLb M_JMath_max 2 := ⟨tk_5 227 rfl rfl, (tk_1 18 (by decide +kernel) rfl), ⟨by decide +kernel, by decide +kernel⟩, by decide +kernel, by decide⟩
theorem ms_JMath_max : MLs M_JMath_max 2 := ⟨mb_JMath_max, (tk_5 226 (by decide +kernel) rfl)⟩
theorem mb_JMath_min : MLb M_JMath_min 2 := ⟨tk_3 151 rfl rfl, (tk_1 18 (by decide +kernel) rfl), ⟨by decide +kernel, by decide +kernel⟩, by decide +kernel, by decide⟩
theorem ms_JMath_min : MLs M_JMath_min 2 := ⟨mb_JMath_min, (tk_3 150 (by decide +kernel) rfl)⟩
theorem mb_JStr_length : MLb M_JStr_length 0 := ⟨tk_1 42 rfl rfl, (tk_1 3 (by decide +kernel) rfl), ⟨by decide +kernel, by decide +kernel⟩, by decide +kernel, by decide⟩
theorem mv_JStr_length : MLv M_JStr_length 0 := ⟨mb_JStr_length, (tk_1 40 (by decide +kernel) rfl), (tk_1 41 (by decide +kernel) rfl)⟩
theorem mb_JStr_charAt : MLb M_JStr_charAt 1 := ⟨tk_1 52 rfl rfl, (tk_1 3 (by decide +kernel) rfl), ⟨by decide +kernel, by decide +kernel⟩, by decide +kernel, by decide⟩
theorem mv_JStr_charAt : MLv M_JStr_charAt 1 := ⟨mb_JStr_charAt, (tk_1 50 (by decide +kernel) rfl), (tk_1 51 (by decide +kernel) rfl)⟩
theorem mb_JStr_coder : MLb M_JStr_coder 0 := ⟨tk_1 46 rfl rfl, (tk_1 3 (by decide +kernel) rfl), ⟨by decide +kernel, by decide +kernel⟩, by decide +kernel, by decide⟩
theorem mv_JStr_coder : MLv M_JStr_coder 0 := ⟨mb_JStr_coder, (tk_1 44 (by decide +kernel) rfl), (tk_1 45 (by decide +kernel) rfl)⟩
theorem mb_JStr_isLatin1 : MLb M_JStr_isLatin1 0 := ⟨tk_1 56 rfl rfl, (tk_1 3 (by decide +kernel) rfl), ⟨by decide +kernel, by decide +kernel⟩, by decide +kernel, by decide⟩
theorem mv_JStr_isLatin1 : MLv M_JStr_isLatin1 0 := ⟨mb_JStr_isLatin1, (tk_1 54 (by decide +kernel) rfl), (tk_1 55 (by decide +kernel) rfl)⟩
theorem mb_JStr_checkIndex : MLb M_JStr_checkIndex 2 := ⟨tk_1 62 rfl rfl, (tk_1 3 (by decide +kernel) rfl), ⟨by decide +kernel, by decide +kernel⟩, by decide +kernel, by decide⟩
theorem ms_JStr_checkIndex : MLs M_JStr_checkIndex 2 := ⟨mb_JStr_checkIndex, (tk_1 61 (by decide +kernel) rfl)⟩
theorem mb_JLat_charAt : MLb M_JLat_charAt 2 := ⟨tk_1 59 rfl rfl, (tk_1 4 (by decide +kernel) rfl), ⟨by decide +kernel, by decide +kernel⟩, by decide +kernel, by decide⟩
theorem ms_JLat_charAt : MLs M_JLat_charAt 2 := ⟨mb_JLat_charAt, (tk_1 58 (by decide +kernel) rfl)⟩
theorem mb_JUtf_getChar : MLb M_JUtf_getChar 2 := ⟨tk_1 80 rfl rfl, (tk_1 6 (by decide +kernel) rfl), ⟨by decide +kernel, by decide +kernel⟩, by decide +kernel, by decide⟩
theorem ms_JUtf_getChar : MLs M_JUtf_getChar 2 := ⟨mb_JUtf_getChar, (tk_1 79 (by decide +kernel) rfl)⟩
theorem mb_JUtf_length : MLb M_JUtf_length 1 := ⟨tk_1 76 rfl rfl, (tk_1 6 (by decide +kernel) rfl), ⟨by decide +kernel, by decide +kernel⟩, by decide +kernel, by decide⟩
theorem ms_JUtf_length : MLs M_JUtf_length 1 := ⟨mb_JUtf_length, (tk_1 75 (by decide +kernel) rfl)⟩
theorem mb_JUtf_charAt : MLb M_JUtf_charAt 2 := ⟨tk_1 70 rfl rfl, (tk_1 6 (by decide +kernel) rfl), ⟨by decide +kernel, by decide +kernel⟩, by decide +kernel, by decide⟩
theorem ms_JUtf_charAt : MLs M_JUtf_charAt 2 := ⟨mb_JUtf_charAt, (tk_1 69 (by decide +kernel) rfl)⟩
theorem mb_JUtf_checkIndex : MLb M_JUtf_checkIndex 2 := ⟨tk_1 73 rfl rfl, (tk_1 6 (by decide +kernel) rfl), ⟨by decide +kernel, by decide +kernel⟩, by decide +kernel, by decide⟩
theorem ms_JUtf_checkIndex : MLs M_JUtf_checkIndex 2 := ⟨mb_JUtf_checkIndex, (tk_1 72 (by decide +kernel) rfl)⟩
theorem mb_JArr_fillJ : MLb M_JArr_fillJ 2 := ⟨tk_3 92 rfl rfl, (tk_1 16 (by decide +kernel) rfl), ⟨by decide +kernel, by decide +kernel⟩, by decide +kernel, by decide⟩
theorem ms_JArr_fillJ : MLs M_JArr_fillJ 2 := ⟨mb_JArr_fillJ, (tk_3 91 (by decide +kernel) rfl)⟩
theorem mb_JArr_fillI : MLb M_JArr_fillI 2 := ⟨tk_4 212 rfl rfl, (tk_1 16 (by decide +kernel) rfl), ⟨by decide +kernel, by decide +kernel⟩, by decide +kernel, by decide⟩
theorem ms_JArr_fillI : MLs M_JArr_fillI 2 := ⟨mb_JArr_fillI, (tk_4 211 (by decide +kernel) rfl)⟩
theorem mb_JPre_checkIndex : MLb M_JPre_checkIndex 3 := ⟨tk_1 67 rfl rfl, (tk_1 5 (by decide +kernel) rfl), ⟨by decide +kernel, by decide +kernel⟩, by decide +kernel, by decide⟩
theorem ms_JPre_checkIndex : MLs M_JPre_checkIndex 3 := ⟨mb_JPre_checkIndex, (tk_1 66 (by decide +kernel) rfl)⟩
theorem lo_Chart_3 : Cond.methodLink "PacedMap$Chart" 3 objectInit ∈ TbL := (tk_2 51 (by decide +kernel) rfl)
theorem lk_Chart_41 : LK "PacedMap$Chart" 41 M_Chart_measure := (tk_4 181 (by decide +kernel) rfl)
theorem lk_Chart_45 : LK "PacedMap$Chart" 45 M_Town_legsThere := (tk_4 202 (by decide +kernel) rfl)
theorem lk_Chart_51 : LK "PacedMap$Chart" 51 M_Chart_trace := (tk_4 206 (by decide +kernel) rfl)
theorem lk_Chart_55 : LK "PacedMap$Chart" 55 M_Chart_lay := (tk_4 224 (by decide +kernel) rfl)
theorem lk_Chart_67 : LK "PacedMap$Chart" 67 M_Town_rightEast := (tk_4 185 (by decide +kernel) rfl)
theorem lk_Chart_71 : LK "PacedMap$Chart" 71 M_Town_rightNorth := (tk_4 198 (by decide +kernel) rfl)
theorem lk_Chart_74 : LK "PacedMap$Chart" 74 M_JArr_fillI := (tk_4 210 (by decide +kernel) rfl)
theorem lk_Chart_83 : LK "PacedMap$Chart" 83 M_Chart_firstLaying := (tk_4 213 (by decide +kernel) rfl)
theorem lk_Chart_87 : LK "PacedMap$Chart" 87 M_Chart_firstUnlaid := (tk_4 220 (by decide +kernel) rfl)
theorem lk_Chart_97 : LN "PacedMap$Chart" 97 M_PM_has := ⟨"PacedMap", (tk_4 217 (by decide +kernel) rfl)⟩
theorem lk_Chart_101 : LN "PacedMap$Chart" 101 M_PM_within := ⟨"PacedMap", (tk_4 236 (by decide +kernel) rfl)⟩
theorem lk_Chart_104 : LK "PacedMap$Chart" 104 M_Chart_lies := (tk_4 232 (by decide +kernel) rfl)
theorem lk_Chart_108 : LK "PacedMap$Chart" 108 M_JMath_absI := (tk_5 9 (by decide +kernel) rfl)
theorem lk_Chart_114 : LK "PacedMap$Chart" 114 M_Chart_canMiss := (tk_5 1 (by decide +kernel) rfl)
theorem lk_Chart_118 : LK "PacedMap$Chart" 118 M_Chart_missOf := (tk_5 5 (by decide +kernel) rfl)
theorem lk_Chart_121 : LK "PacedMap$Chart" 121 M_Chart_sameParts := (tk_5 27 (by decide +kernel) rfl)
theorem lo_Days_3 : Cond.methodLink "PacedMap$Days" 3 objectInit ∈ TbL := (tk_2 14 (by decide +kernel) rfl)
theorem lk_Days_30 : Cond.methodLink "PacedMap$Days" 30 arraycopyName ∈ TbL := (tk_4 164 (by decide +kernel) rfl)
theorem lo_DaysText_3 : Cond.methodLink "PacedMap$DaysText" 3 objectInit ∈ TbL := (tk_4 89 (by decide +kernel) rfl)
theorem lk_DaysText_33 : LK "PacedMap$DaysText" 33 M_Days_clear := (tk_4 110 (by decide +kernel) rfl)
theorem lk_DaysText_40 : LK "PacedMap$DaysText" 40 M_Text_atEnd := (tk_4 111 (by decide +kernel) rfl)
theorem lk_DaysText_46 : LK "PacedMap$DaysText" 46 M_Text_cannotStand := (tk_4 112 (by decide +kernel) rfl)
theorem lk_DaysText_52 : LK "PacedMap$DaysText" 52 M_DaysText_takeEnd := (tk_4 113 (by decide +kernel) rfl)
theorem lk_DaysText_55 : LK "PacedMap$DaysText" 55 M_DaysText_takeStep := (tk_4 122 (by decide +kernel) rfl)
theorem lk_DaysText_58 : LK "PacedMap$DaysText" 58 M_Text_takeSign := (tk_4 159 (by decide +kernel) rfl)
theorem lk_DaysText_68 : LK "PacedMap$DaysText" 68 M_Days_addRow := (tk_4 117 (by decide +kernel) rfl)
theorem lk_DaysText_72 : LK "PacedMap$DaysText" 72 M_Text_next := (tk_4 121 (by decide +kernel) rfl)
theorem lk_DaysText_75 : LK "PacedMap$DaysText" 75 M_DaysText_isStep := (tk_4 126 (by decide +kernel) rfl)
theorem lk_DaysText_81 : LK "PacedMap$DaysText" 81 M_Text_faultHere := (tk_4 129 (by decide +kernel) rfl)
theorem lk_DaysText_84 : LK "PacedMap$DaysText" 84 M_DaysText_takeNumberRow := (tk_4 130 (by decide +kernel) rfl)
theorem lk_DaysText_88 : LK "PacedMap$DaysText" 88 M_DaysText_takeBelieve := (tk_4 135 (by decide +kernel) rfl)
theorem lk_DaysText_91 : LK "PacedMap$DaysText" 91 M_DaysText_openRow := (tk_4 141 (by decide +kernel) rfl)
theorem lk_DaysText_94 : LK "PacedMap$DaysText" 94 M_DaysText_takeTest := (tk_4 146 (by decide +kernel) rfl)
theorem lk_DaysText_97 : LN "PacedMap$DaysText" 97 M_PM_within := ⟨"PacedMap", (tk_4 145 (by decide +kernel) rfl)⟩
theorem lk_DaysText_101 : LK "PacedMap$DaysText" 101 M_Text_takeNumber := (tk_4 134 (by decide +kernel) rfl)
theorem lk_DaysText_107 : LK "PacedMap$DaysText" 107 M_Text_nameHere := (tk_4 139 (by decide +kernel) rfl)
theorem lk_DaysText_114 : LK "PacedMap$DaysText" 114 M_Town_walkerNamed := (tk_4 140 (by decide +kernel) rfl)
theorem lk_DaysText_120 : LK "PacedMap$DaysText" 120 M_DaysText_takeAt := (tk_4 150 (by decide +kernel) rfl)
theorem lk_DaysText_123 : LK "PacedMap$DaysText" 123 M_DaysText_comparisonHere := (tk_4 155 (by decide +kernel) rfl)
theorem lk_DaysText_133 : LK "PacedMap$DaysText" 133 M_Town_placeNamed := (tk_4 154 (by decide +kernel) rfl)
theorem lo_Doubts_3 : Cond.methodLink "PacedMap$Doubts" 3 objectInit ∈ TbL := (tk_2 91 (by decide +kernel) rfl)
theorem lk_Doubts_11 : LN "PacedMap$Doubts" 11 M_Chart_init := ⟨"PacedMap", (tk_2 93 (by decide +kernel) rfl)⟩
theorem lk_Doubts_59 : LK "PacedMap$Doubts" 59 M_Chart_measure := (tk_5 142 (by decide +kernel) rfl)
theorem lk_Doubts_63 : LK "PacedMap$Doubts" 63 M_Town_legsThere := (tk_5 143 (by decide +kernel) rfl)
theorem lk_Doubts_72 : LK "PacedMap$Doubts" 72 M_JInt_bitCount := (tk_5 144 (by decide +kernel) rfl)
theorem lk_Doubts_78 : LK "PacedMap$Doubts" 78 M_Doubts_closesWithout := (tk_5 145 (by decide +kernel) rfl)
theorem lk_Doubts_82 : LK "PacedMap$Doubts" 82 M_Chart_trace := (tk_5 149 (by decide +kernel) rfl)
theorem lk_Doubts_86 : LK "PacedMap$Doubts" 86 M_Chart_lay := (tk_5 150 (by decide +kernel) rfl)
theorem lk_Doubts_89 : LK "PacedMap$Doubts" 89 M_Chart_closes := (tk_5 151 (by decide +kernel) rfl)
theorem lk_Doubts_92 : LK "PacedMap$Doubts" 92 M_JArr_fillI := (tk_5 168 (by decide +kernel) rfl)
theorem lk_Doubts_98 : LK "PacedMap$Doubts" 98 M_Doubts_pickWalkers := (tk_5 169 (by decide +kernel) rfl)
theorem lk_Doubts_101 : LK "PacedMap$Doubts" 101 M_Chart_draw := (tk_5 174 (by decide +kernel) rfl)
theorem lk_Doubts_104 : LK "PacedMap$Doubts" 104 M_Chart_measureBy := (tk_5 175 (by decide +kernel) rfl)
theorem lk_Doubts_108 : LK "PacedMap$Doubts" 108 M_Doubts_keepWay := (tk_5 179 (by decide +kernel) rfl)
theorem lk_Doubts_115 : LN "PacedMap$Doubts" 115 M_PM_has := ⟨"PacedMap", (tk_5 173 (by decide +kernel) rfl)⟩
theorem lk_Doubts_128 : LK "PacedMap$Doubts" 128 M_Chart_sameParts := (tk_5 215 (by decide +kernel) rfl)
theorem lk_Doubts_131 : LK "PacedMap$Doubts" 131 M_Doubts_mostAlike := (tk_5 216 (by decide +kernel) rfl)
theorem lk_Doubts_135 : LK "PacedMap$Doubts" 135 M_Doubts_slotOf := (tk_5 220 (by decide +kernel) rfl)
theorem lk_Doubts_138 : LK "PacedMap$Doubts" 138 M_JMath_max := (tk_5 225 (by decide +kernel) rfl)
theorem lo_Game_3 : Cond.methodLink "PacedMap$Game" 3 objectInit ∈ TbL := (tk_2 177 (by decide +kernel) rfl)
theorem lk_Game_32 : LK "PacedMap$Game" 32 M_JArr_fillI := (tk_6 45 (by decide +kernel) rfl)
theorem lk_Game_41 : LK "PacedMap$Game" 41 M_Town_legsThere := (tk_6 46 (by decide +kernel) rfl)
theorem lk_Game_54 : LK "PacedMap$Game" 54 M_Game_worth := (tk_6 51 (by decide +kernel) rfl)
theorem lk_Game_58 : LN "PacedMap$Game" 58 M_PM_has := ⟨"PacedMap", (tk_6 59 (by decide +kernel) rfl)⟩
theorem lk_Game_62 : LK "PacedMap$Game" 62 M_Game_reached := (tk_6 55 (by decide +kernel) rfl)
theorem lk_Game_66 : LK "PacedMap$Game" 66 M_Game_bestMove := (tk_6 61 (by decide +kernel) rfl)
theorem lk_Game_69 : LK "PacedMap$Game" 69 M_JMath_min := (tk_6 65 (by decide +kernel) rfl)
theorem lk_Game_74 : LK "PacedMap$Game" 74 M_JMath_max := (tk_6 66 (by decide +kernel) rfl)
theorem lk_Game_77 : LK "PacedMap$Game" 77 M_JInt_bitCount := (tk_6 60 (by decide +kernel) rfl)
theorem lk_JLat_9 : LK "java/lang/StringLatin1" 9 M_JStr_checkIndex := (tk_1 60 (by decide +kernel) rfl)
theorem lk_JStr_335 : LK "java/lang/String" 335 M_JStr_coder := (tk_1 43 (by decide +kernel) rfl)
theorem lk_JStr_492 : LK "java/lang/String" 492 M_JStr_isLatin1 := (tk_1 53 (by decide +kernel) rfl)
theorem lk_JStr_495 : LK "java/lang/String" 495 M_JLat_charAt := (tk_1 57 (by decide +kernel) rfl)
theorem lk_JStr_498 : LK "java/lang/String" 498 M_JUtf_charAt := (tk_1 68 (by decide +kernel) rfl)
theorem lk_JStr_1059 : LK "java/lang/String" 1059 M_JPre_checkIndex := (tk_1 65 (by decide +kernel) rfl)
theorem lk_JUtf_48 : LK "java/lang/StringUTF16" 48 M_JUtf_length := (tk_1 74 (by decide +kernel) rfl)
theorem lk_JUtf_67 : LK "java/lang/StringUTF16" 67 M_JUtf_checkIndex := (tk_1 71 (by decide +kernel) rfl)
theorem lk_JUtf_71 : LK "java/lang/StringUTF16" 71 M_JUtf_getChar := (tk_1 78 (by decide +kernel) rfl)
theorem lk_JUtf_414 : LK "java/lang/StringUTF16" 414 M_JStr_checkIndex := (tk_1 77 (by decide +kernel) rfl)
theorem lk_Law_9 : LK "PacedMapLaw" 9 M_PM_init := (tk_1 24 (by decide +kernel) rfl)
theorem lk_Law_12 : LK "PacedMapLaw" 12 M_Mo_init := (tk_6 163 (by decide +kernel) rfl)
theorem lk_Law_13 : LK "PacedMapLaw" 13 M_PM_status := (tk_3 63 (by decide +kernel) rfl)
theorem lk_Law_17 : LK "PacedMapLaw" 17 M_Mo_status := (tk_7 82 (by decide +kernel) rfl)
theorem lk_Law_18 : LK "PacedMapLaw" 18 M_PM_top := (tk_3 67 (by decide +kernel) rfl)
theorem lk_Law_22 : LK "PacedMapLaw" 22 M_Mo_top := (tk_7 86 (by decide +kernel) rfl)
theorem lk_Law_23 : LK "PacedMapLaw" 23 M_PM_bottom := (tk_3 71 (by decide +kernel) rfl)
theorem lk_Law_26 : LK "PacedMapLaw" 26 M_Mo_bottom := (tk_7 90 (by decide +kernel) rfl)
theorem lk_Law_27 : LK "PacedMapLaw" 27 M_PM_tray := (tk_3 75 (by decide +kernel) rfl)
theorem lk_Law_31 : LK "PacedMapLaw" 31 M_Mo_tray := (tk_7 94 (by decide +kernel) rfl)
theorem lk_Law_34 : LK "PacedMapLaw" 34 M_PM_write := (tk_3 97 (by decide +kernel) rfl)
theorem lk_Law_38 : LK "PacedMapLaw" 38 M_Mo_write := (tk_7 105 (by decide +kernel) rfl)
theorem lk_Law_39 : LK "PacedMapLaw" 39 M_PM_read := (tk_3 114 (by decide +kernel) rfl)
theorem lk_Law_43 : LK "PacedMapLaw" 43 M_Mo_read := (tk_7 116 (by decide +kernel) rfl)
theorem lk_Law_44 : LK "PacedMapLaw" 44 M_PM_pour := (tk_3 122 (by decide +kernel) rfl)
theorem lk_Law_48 : LK "PacedMapLaw" 48 M_Mo_pour := (tk_7 121 (by decide +kernel) rfl)
theorem lk_Law_49 : LK "PacedMapLaw" 49 M_PM_feed := (tk_3 133 (by decide +kernel) rfl)
theorem lk_Law_53 : LK "PacedMapLaw" 53 M_Mo_feed := (tk_7 125 (by decide +kernel) rfl)
theorem lk_Law_54 : LK "PacedMapLaw" 54 M_PM_town := (tk_3 141 (by decide +kernel) rfl)
theorem lk_Law_58 : LK "PacedMapLaw" 58 M_Mo_town := (tk_7 137 (by decide +kernel) rfl)
theorem lk_Law_59 : LK "PacedMapLaw" 59 M_PM_days := (tk_4 80 (by decide +kernel) rfl)
theorem lk_Law_62 : LK "PacedMapLaw" 62 M_Mo_days := (tk_8 6 (by decide +kernel) rfl)
theorem lk_Law_63 : LK "PacedMapLaw" 63 M_PM_fault := (tk_4 165 (by decide +kernel) rfl)
theorem lk_Law_66 : LK "PacedMapLaw" 66 M_Mo_fault := (tk_7 133 (by decide +kernel) rfl)
theorem lk_Law_67 : LK "PacedMapLaw" 67 M_PM_told := (tk_4 169 (by decide +kernel) rfl)
theorem lk_Law_70 : LK "PacedMapLaw" 70 M_Mo_told := (tk_8 22 (by decide +kernel) rfl)
theorem lk_Law_71 : LK "PacedMapLaw" 71 M_PM_walker := (tk_5 31 (by decide +kernel) rfl)
theorem lk_Law_75 : LK "PacedMapLaw" 75 M_Mo_walker := (tk_8 98 (by decide +kernel) rfl)
theorem lk_Law_76 : LK "PacedMapLaw" 76 M_PM_leg := (tk_5 42 (by decide +kernel) rfl)
theorem lk_Law_79 : LK "PacedMapLaw" 79 M_Mo_leg := (tk_8 110 (by decide +kernel) rfl)
theorem lk_Law_80 : LK "PacedMapLaw" 80 M_PM_place := (tk_5 58 (by decide +kernel) rfl)
theorem lk_Law_83 : LK "PacedMapLaw" 83 M_Mo_place := (tk_8 118 (by decide +kernel) rfl)
theorem lk_Law_84 : LK "PacedMapLaw" 84 M_PM_apart := (tk_5 63 (by decide +kernel) rfl)
theorem lk_Law_87 : LK "PacedMapLaw" 87 M_Mo_apart := (tk_8 126 (by decide +kernel) rfl)
theorem lk_Law_88 : LK "PacedMapLaw" 88 M_PM_joined := (tk_5 68 (by decide +kernel) rfl)
theorem lk_Law_91 : LK "PacedMapLaw" 91 M_Mo_joined := (tk_8 130 (by decide +kernel) rfl)
theorem lk_Law_92 : LK "PacedMapLaw" 92 M_PM_pace := (tk_5 74 (by decide +kernel) rfl)
theorem lk_Law_95 : LK "PacedMapLaw" 95 M_Mo_pace := (tk_8 134 (by decide +kernel) rfl)
theorem lk_Law_96 : LK "PacedMapLaw" 96 M_PM_tell := (tk_5 86 (by decide +kernel) rfl)
theorem lk_Law_99 : LK "PacedMapLaw" 99 M_Mo_tell := (tk_8 147 (by decide +kernel) rfl)
theorem lk_Law_100 : LK "PacedMapLaw" 100 M_PM_strike := (tk_5 90 (by decide +kernel) rfl)
theorem lk_Law_103 : LK "PacedMapLaw" 103 M_Mo_strike := (tk_8 151 (by decide +kernel) rfl)
theorem lk_Law_104 : LK "PacedMapLaw" 104 M_PM_restore := (tk_5 100 (by decide +kernel) rfl)
theorem lk_Law_107 : LK "PacedMapLaw" 107 M_Mo_restore := (tk_8 162 (by decide +kernel) rfl)
theorem lk_Law_108 : LK "PacedMapLaw" 108 M_PM_believe := (tk_5 108 (by decide +kernel) rfl)
theorem lk_Law_111 : LK "PacedMapLaw" 111 M_Mo_believe := (tk_8 170 (by decide +kernel) rfl)
theorem lk_Law_112 : LK "PacedMapLaw" 112 M_PM_settle := (tk_5 112 (by decide +kernel) rfl)
theorem lk_Law_115 : LK "PacedMapLaw" 115 M_Mo_settle := (tk_8 179 (by decide +kernel) rfl)
theorem lk_Law_116 : LK "PacedMapLaw" 116 M_PM_go := (tk_5 117 (by decide +kernel) rfl)
theorem lk_Law_119 : LK "PacedMapLaw" 119 M_Mo_go := (tk_8 183 (by decide +kernel) rfl)
theorem lk_Law_120 : LK "PacedMapLaw" 120 M_PM_rule := (tk_5 130 (by decide +kernel) rfl)
theorem lk_Law_124 : LK "PacedMapLaw" 124 M_Mo_rule := (tk_8 195 (by decide +kernel) rfl)
theorem lk_Law_125 : LK "PacedMapLaw" 125 M_PM_out := (tk_5 134 (by decide +kernel) rfl)
theorem lk_Law_128 : LK "PacedMapLaw" 128 M_Mo_out := (tk_8 200 (by decide +kernel) rfl)
theorem lk_Law_129 : LK "PacedMapLaw" 129 M_PM_outSet := (tk_5 152 (by decide +kernel) rfl)
theorem lk_Law_132 : LK "PacedMapLaw" 132 M_Mo_outSet := (tk_8 212 (by decide +kernel) rfl)
theorem lk_Law_133 : LK "PacedMapLaw" 133 M_PM_fits := (tk_5 156 (by decide +kernel) rfl)
theorem lk_Law_136 : LK "PacedMapLaw" 136 M_Mo_fits := (tk_8 216 (by decide +kernel) rfl)
theorem lk_Law_137 : LK "PacedMapLaw" 137 M_PM_firstFault := (tk_5 183 (by decide +kernel) rfl)
theorem lk_Law_140 : LK "PacedMapLaw" 140 M_Mo_firstFault := (tk_8 228 (by decide +kernel) rfl)
theorem lk_Law_141 : LK "PacedMapLaw" 141 M_PM_oddsThat := (tk_5 192 (by decide +kernel) rfl)
theorem lk_Law_144 : LK "PacedMapLaw" 144 M_Mo_oddsThat := (tk_8 236 (by decide +kernel) rfl)
theorem lk_Law_145 : LK "PacedMapLaw" 145 M_PM_ask := (tk_5 207 (by decide +kernel) rfl)
theorem lk_Law_148 : LK "PacedMapLaw" 148 M_Mo_ask := (tk_9 4 (by decide +kernel) rfl)
theorem lk_Law_149 : LK "PacedMapLaw" 149 M_PM_way := (tk_5 228 (by decide +kernel) rfl)
theorem lk_Law_152 : LK "PacedMapLaw" 152 M_Mo_way := (tk_9 16 (by decide +kernel) rfl)
theorem lk_Law_153 : LK "PacedMapLaw" 153 M_PM_wayAt := (tk_6 17 (by decide +kernel) rfl)
theorem lk_Law_157 : LK "PacedMapLaw" 157 M_Mo_wayAt := (tk_9 25 (by decide +kernel) rfl)
theorem lk_Law_158 : LK "PacedMapLaw" 158 M_PM_area := (tk_6 21 (by decide +kernel) rfl)
theorem lk_Law_162 : LK "PacedMapLaw" 162 M_Mo_area := (tk_9 45 (by decide +kernel) rfl)
theorem lk_Law_163 : LK "PacedMapLaw" 163 M_PM_game := (tk_6 37 (by decide +kernel) rfl)
theorem lk_Law_166 : LK "PacedMapLaw" 166 M_Mo_game := (tk_9 52 (by decide +kernel) rfl)
theorem lk_Law_167 : LK "PacedMapLaw" 167 M_PM_moveOf := (tk_6 67 (by decide +kernel) rfl)
theorem lk_Law_170 : LK "PacedMapLaw" 170 M_Mo_moveOf := (tk_9 69 (by decide +kernel) rfl)
theorem lk_Law_171 : LK "PacedMapLaw" 171 M_PM_misread := (tk_6 75 (by decide +kernel) rfl)
theorem lk_Law_174 : LK "PacedMapLaw" 174 M_Mo_misread := (tk_9 73 (by decide +kernel) rfl)
theorem lk_Law_175 : LK "PacedMapLaw" 175 M_PM_share := (tk_6 85 (by decide +kernel) rfl)
theorem lk_Law_178 : LK "PacedMapLaw" 178 M_Mo_share := (tk_9 78 (by decide +kernel) rfl)
theorem lk_Law_179 : LK "PacedMapLaw" 179 M_PM_copyPlaces := (tk_6 93 (by decide +kernel) rfl)
theorem lk_Law_182 : LK "PacedMapLaw" 182 M_Mo_copyPlaces := (tk_9 82 (by decide +kernel) rfl)
theorem lk_Law_183 : LK "PacedMapLaw" 183 M_PM_live := (tk_6 97 (by decide +kernel) rfl)
theorem lk_Law_186 : LK "PacedMapLaw" 186 M_Mo_live := (tk_9 86 (by decide +kernel) rfl)
theorem lk_Law_187 : LK "PacedMapLaw" 187 M_PM_lived := (tk_6 145 (by decide +kernel) rfl)
theorem lk_Law_190 : LK "PacedMapLaw" 190 M_Mo_lived := (tk_9 124 (by decide +kernel) rfl)
theorem lk_Law_191 : LK "PacedMapLaw" 191 M_PM_mean := (tk_6 149 (by decide +kernel) rfl)
theorem lk_Law_194 : LK "PacedMapLaw" 194 M_Mo_mean := (tk_9 128 (by decide +kernel) rfl)
theorem lk_Law_195 : LK "PacedMapLaw" 195 M_PM_mark := (tk_6 153 (by decide +kernel) rfl)
theorem lk_Law_198 : LK "PacedMapLaw" 198 M_Mo_mark := (tk_9 140 (by decide +kernel) rfl)
theorem lk_Law_199 : LK "PacedMapLaw" 199 M_PM_undo := (tk_6 157 (by decide +kernel) rfl)
theorem lk_Law_202 : LK "PacedMapLaw" 202 M_Mo_undo := (tk_9 148 (by decide +kernel) rfl)
theorem lo_Life_3 : Cond.methodLink "PacedMap$Life" 3 objectInit ∈ TbL := (tk_2 202 (by decide +kernel) rfl)
theorem lk_Life_11 : LN "PacedMap$Life" 11 M_Chart_init := ⟨"PacedMap", (tk_2 204 (by decide +kernel) rfl)⟩
theorem lk_Life_34 : LK "PacedMap$Life" 34 M_JArr_fillI := (tk_6 105 (by decide +kernel) rfl)
theorem lk_Life_47 : LK "PacedMap$Life" 47 M_Life_behindEnd := (tk_6 107 (by decide +kernel) rfl)
theorem lk_Life_51 : LK "PacedMap$Life" 51 M_Life_behindStep := (tk_6 111 (by decide +kernel) rfl)
theorem lk_Life_61 : LK "PacedMap$Life" 61 M_Town_walkAlong := (tk_6 115 (by decide +kernel) rfl)
theorem lk_Life_67 : LK "PacedMap$Life" 67 M_Life_count := (tk_6 116 (by decide +kernel) rfl)
theorem lk_Life_71 : LK "PacedMap$Life" 71 M_Town_strikeLeg := (tk_6 120 (by decide +kernel) rfl)
theorem lk_Life_74 : LK "PacedMap$Life" 74 M_Town_restoreLeg := (tk_6 121 (by decide +kernel) rfl)
theorem lk_Life_77 : LK "PacedMap$Life" 77 M_Life_takeBelief := (tk_6 122 (by decide +kernel) rfl)
theorem lk_Life_81 : LK "PacedMap$Life" 81 M_Life_doAny := (tk_6 127 (by decide +kernel) rfl)
theorem lk_Life_85 : LK "PacedMap$Life" 85 M_Life_holds := (tk_6 137 (by decide +kernel) rfl)
theorem lk_Life_92 : LN "PacedMap$Life" 92 M_PM_within := ⟨"PacedMap", (tk_6 126 (by decide +kernel) rfl)⟩
theorem lk_Life_102 : LK "PacedMap$Life" 102 M_Life_draw := (tk_6 131 (by decide +kernel) rfl)
theorem lk_Life_112 : LN "PacedMap$Life" 112 M_PM_has := ⟨"PacedMap", (tk_6 136 (by decide +kernel) rfl)⟩
theorem lk_Life_119 : LK "PacedMap$Life" 119 M_Chart_draw := (tk_6 141 (by decide +kernel) rfl)
theorem lk_Life_121 : LK "PacedMap$Life" 121 M_Town_legsThere := (tk_6 142 (by decide +kernel) rfl)
theorem lk_Life_125 : LK "PacedMap$Life" 125 M_Chart_closes := (tk_6 143 (by decide +kernel) rfl)
theorem lk_Life_129 : LK "PacedMap$Life" 129 M_Chart_missSet := (tk_6 144 (by decide +kernel) rfl)
theorem lo_Mo_1 : Cond.methodLink "PacedMapModel" 1 objectInit ∈ TbL := (tk_6 166 (by decide +kernel) rfl)
theorem lk_Mo_101 : LK "PacedMapModel" 101 M_Mo_plain := (tk_6 167 (by decide +kernel) rfl)
theorem lk_Mo_111 : LK "PacedMapModel" 111 M_Mo_refuse := (tk_7 161 (by decide +kernel) rfl)
theorem lk_Mo_115 : LK "PacedMapModel" 115 M_Mo_gives := (tk_8 2 (by decide +kernel) rfl)
theorem lk_Mo_118 : LK "PacedMapModel" 118 M_Mo_is := (tk_7 101 (by decide +kernel) rfl)
theorem lk_Mo_122 : LK "PacedMapModel" 122 M_Mo_isTray := (tk_7 98 (by decide +kernel) rfl)
theorem lk_Mo_125 : LK "PacedMapModel" 125 M_Mo_wrongPlace := (tk_7 109 (by decide +kernel) rfl)
theorem lk_Mo_129 : LK "PacedMapModel" 129 M_Mo_cut := (tk_7 113 (by decide +kernel) rfl)
theorem lk_Mo_138 : LK "PacedMapModel" 138 M_Mo_four := (tk_7 129 (by decide +kernel) rfl)
theorem lk_Mo_147 : LK "PacedMapModel" 147 M_Mo_byteAt := (tk_7 149 (by decide +kernel) rfl)
theorem lk_Mo_159 : LK "PacedMapModel" 159 M_Mo_isSmall := (tk_7 153 (by decide +kernel) rfl)
theorem lk_Mo_162 : LK "PacedMapModel" 162 M_Mo_isDigit := (tk_7 156 (by decide +kernel) rfl)
theorem lk_Mo_166 : LK "PacedMapModel" 166 M_JMath_min := (tk_7 160 (by decide +kernel) rfl)
theorem lk_Mo_171 : LK "PacedMapModel" 171 M_JStr_length := (tk_7 174 (by decide +kernel) rfl)
theorem lk_Mo_177 : LK "PacedMapModel" 177 M_JStr_charAt := (tk_7 175 (by decide +kernel) rfl)
theorem lk_Mo_187 : LK "PacedMapModel" 187 M_Mo_ahead := (tk_7 145 (by decide +kernel) rfl)
theorem lk_Mo_190 : LK "PacedMapModel" 190 M_Mo_isSign := (tk_7 204 (by decide +kernel) rfl)
theorem lk_Mo_193 : LK "PacedMapModel" 193 M_Mo_fails := (tk_7 176 (by decide +kernel) rfl)
theorem lk_Mo_196 : LK "PacedMapModel" 196 M_Mo_inWords := (tk_7 170 (by decide +kernel) rfl)
theorem lk_Mo_200 : LK "PacedMapModel" 200 M_Mo_nameHere := (tk_7 196 (by decide +kernel) rfl)
theorem lk_Mo_206 : LK "PacedMapModel" 206 M_Mo_isName := (tk_7 188 (by decide +kernel) rfl)
theorem lk_Mo_210 : LK "PacedMapModel" 210 M_Mo_findHere := (tk_7 192 (by decide +kernel) rfl)
theorem lk_Mo_213 : LK "PacedMapModel" 213 M_Mo_newName := (tk_7 184 (by decide +kernel) rfl)
theorem lk_Mo_216 : LK "PacedMapModel" 216 M_Mo_walkerRow := (tk_7 212 (by decide +kernel) rfl)
theorem lk_Mo_219 : LK "PacedMapModel" 219 M_Mo_isThere := (tk_7 215 (by decide +kernel) rfl)
theorem lk_Mo_222 : LK "PacedMapModel" 222 M_Mo_number := (tk_7 219 (by decide +kernel) rfl)
theorem lk_Mo_226 : LK "PacedMapModel" 226 M_Mo_legRow := (tk_7 227 (by decide +kernel) rfl)
theorem lk_Mo_229 : LK "PacedMapModel" 229 M_Mo_knownTo := (tk_7 230 (by decide +kernel) rfl)
theorem lk_Mo_233 : LK "PacedMapModel" 233 M_Mo_paced := (tk_7 234 (by decide +kernel) rfl)
theorem lk_Mo_236 : LK "PacedMapModel" 236 M_Mo_aPlace := (tk_7 180 (by decide +kernel) rfl)
theorem lk_Mo_240 : LK "PacedMapModel" 240 M_Mo_wantSign := (tk_7 200 (by decide +kernel) rfl)
theorem lk_Mo_243 : LK "PacedMapModel" 243 M_Mo_aWalker := (tk_7 208 (by decide +kernel) rfl)
theorem lk_Mo_246 : LK "PacedMapModel" 246 M_Mo_aLeg := (tk_7 223 (by decide +kernel) rfl)
theorem lk_Mo_253 : LK "PacedMapModel" 253 M_Mo_begins := (tk_7 141 (by decide +kernel) rfl)
theorem lk_Mo_257 : LK "PacedMapModel" 257 M_Mo_townPart := (tk_7 165 (by decide +kernel) rfl)
theorem lk_Mo_260 : LK "PacedMapModel" 260 M_Mo_taken := (tk_7 238 (by decide +kernel) rfl)
theorem lk_Mo_263 : LK "PacedMapModel" 263 M_Mo_test := (tk_8 18 (by decide +kernel) rfl)
theorem lk_Mo_272 : LK "PacedMapModel" 272 M_Mo_dayOrder := (tk_8 14 (by decide +kernel) rfl)
theorem lk_Mo_275 : LK "PacedMapModel" 275 M_Mo_dayStep := (tk_8 10 (by decide +kernel) rfl)
theorem lk_Mo_278 : LK "PacedMapModel" 278 M_Mo_isPlace := (tk_8 122 (by decide +kernel) rfl)
theorem lk_Mo_281 : LK "PacedMapModel" 281 M_Mo_isIn := (tk_8 58 (by decide +kernel) rfl)
theorem lk_Mo_284 : LK "PacedMapModel" 284 M_JMath_max := (tk_8 81 (by decide +kernel) rfl)
theorem lk_Mo_287 : LK "PacedMapModel" 287 M_Mo_legOf := (tk_8 50 (by decide +kernel) rfl)
theorem lk_Mo_290 : LK "PacedMapModel" 290 M_Mo_walkerOf := (tk_8 66 (by decide +kernel) rfl)
theorem lk_Mo_293 : LK "PacedMapModel" 293 M_Mo_right := (tk_8 62 (by decide +kernel) rfl)
theorem lk_Mo_297 : LK "PacedMapModel" 297 M_Mo_plainly := (tk_8 78 (by decide +kernel) rfl)
theorem lk_Mo_300 : LK "PacedMapModel" 300 M_Mo_counts := (tk_8 54 (by decide +kernel) rfl)
theorem lk_Mo_303 : LK "PacedMapModel" 303 M_Mo_isLying := (tk_8 38 (by decide +kernel) rfl)
theorem lk_Mo_306 : LK "PacedMapModel" 306 M_Mo_lays := (tk_8 46 (by decide +kernel) rfl)
theorem lk_Mo_309 : LK "PacedMapModel" 309 M_Mo_spreads := (tk_8 42 (by decide +kernel) rfl)
theorem lk_Mo_312 : LK "PacedMapModel" 312 M_Mo_missOf := (tk_8 74 (by decide +kernel) rfl)
theorem lk_Mo_315 : LK "PacedMapModel" 315 M_Mo_laysOut := (tk_8 34 (by decide +kernel) rfl)
theorem lk_Mo_319 : LK "PacedMapModel" 319 M_Mo_missing := (tk_8 70 (by decide +kernel) rfl)
theorem lk_Mo_322 : LK "PacedMapModel" 322 M_Mo_parts := (tk_8 86 (by decide +kernel) rfl)
theorem lk_Mo_325 : LK "PacedMapModel" 325 M_Mo_orNone := (tk_8 26 (by decide +kernel) rfl)
theorem lk_Mo_328 : LK "PacedMapModel" 328 M_Mo_lying := (tk_8 30 (by decide +kernel) rfl)
theorem lk_Mo_331 : LK "PacedMapModel" 331 M_Mo_bridges := (tk_8 82 (by decide +kernel) rfl)
theorem lk_Mo_334 : LK "PacedMapModel" 334 M_Mo_legsThere := (tk_8 90 (by decide +kernel) rfl)
theorem lk_Mo_337 : LK "PacedMapModel" 337 M_Mo_isClosed := (tk_8 94 (by decide +kernel) rfl)
theorem lk_Mo_340 : LK "PacedMapModel" 340 M_Mo_isWalker := (tk_8 102 (by decide +kernel) rfl)
theorem lk_Mo_343 : LK "PacedMapModel" 343 M_Mo_faultOf := (tk_8 106 (by decide +kernel) rfl)
theorem lk_Mo_346 : LK "PacedMapModel" 346 M_Mo_isLeg := (tk_8 114 (by decide +kernel) rfl)
theorem lk_Mo_349 : LK "PacedMapModel" 349 M_Mo_areTwo := (tk_8 138 (by decide +kernel) rfl)
theorem lk_Mo_356 : LK "PacedMapModel" 356 M_Mo_isFrom := (tk_8 144 (by decide +kernel) rfl)
theorem lk_Mo_360 : LK "PacedMapModel" 360 M_Mo_strikes := (tk_8 155 (by decide +kernel) rfl)
theorem lk_Mo_363 : LK "PacedMapModel" 363 M_Mo_bits := (tk_8 159 (by decide +kernel) rfl)
theorem lk_Mo_366 : LK "PacedMapModel" 366 M_Mo_restores1 := (tk_8 166 (by decide +kernel) rfl)
theorem lk_Mo_371 : LK "PacedMapModel" 371 M_Mo_believes := (tk_8 175 (by decide +kernel) rfl)
theorem lk_Mo_375 : LK "PacedMapModel" 375 M_Mo_yardsOf := (tk_8 191 (by decide +kernel) rfl)
theorem lk_Mo_378 : LK "PacedMapModel" 378 M_Mo_goesAlong := (tk_8 187 (by decide +kernel) rfl)
theorem lk_Mo_383 : LK "PacedMapModel" 383 M_Mo_outBy := (tk_8 208 (by decide +kernel) rfl)
theorem lk_Mo_386 : LK "PacedMapModel" 386 M_Mo_outOf := (tk_8 204 (by decide +kernel) rfl)
theorem lk_Mo_398 : LK "PacedMapModel" 398 M_Mo_isSet := (tk_8 220 (by decide +kernel) rfl)
theorem lk_Mo_401 : LK "PacedMapModel" 401 M_Mo_laysWays := (tk_8 224 (by decide +kernel) rfl)
theorem lk_Mo_404 : LK "PacedMapModel" 404 M_Mo_faultIn := (tk_8 232 (by decide +kernel) rfl)
theorem lk_Mo_407 : LK "PacedMapModel" 407 M_Mo_tellsBy := (tk_9 0 (by decide +kernel) rfl)
theorem lk_Mo_411 : LK "PacedMapModel" 411 M_Mo_isSameIn := (tk_9 12 (by decide +kernel) rfl)
theorem lk_Mo_415 : LK "PacedMapModel" 415 M_Mo_mostAlike := (tk_9 8 (by decide +kernel) rfl)
theorem lk_Mo_419 : LK "PacedMapModel" 419 M_Mo_otherEnd := (tk_9 41 (by decide +kernel) rfl)
theorem lk_Mo_422 : LK "PacedMapModel" 422 M_Mo_laysFar := (tk_9 20 (by decide +kernel) rfl)
theorem lk_Mo_425 : LK "PacedMapModel" 425 M_Mo_isTried := (tk_9 33 (by decide +kernel) rfl)
theorem lk_Mo_428 : LK "PacedMapModel" 428 M_Mo_betweenBy := (tk_9 37 (by decide +kernel) rfl)
theorem lk_Mo_434 : LK "PacedMapModel" 434 M_Mo_laysRow := (tk_9 29 (by decide +kernel) rfl)
theorem lk_Mo_443 : LK "PacedMapModel" 443 M_Mo_beginsAt := (tk_9 61 (by decide +kernel) rfl)
theorem lk_Mo_446 : LK "PacedMapModel" 446 M_Mo_settles := (tk_9 65 (by decide +kernel) rfl)
theorem lk_Mo_451 : LK "PacedMapModel" 451 M_Mo_playing := (tk_9 57 (by decide +kernel) rfl)
theorem lk_Mo_460 : LK "PacedMapModel" 460 M_Mo_draw := (tk_9 111 (by decide +kernel) rfl)
theorem lk_Mo_463 : LK "PacedMapModel" 463 M_Mo_ranIf := (tk_9 99 (by decide +kernel) rfl)
theorem lk_Mo_467 : LK "PacedMapModel" 467 M_Mo_believesBy := (tk_9 103 (by decide +kernel) rfl)
theorem lk_Mo_470 : LK "PacedMapModel" 470 M_Mo_doesAny := (tk_9 107 (by decide +kernel) rfl)
theorem lk_Mo_476 : LK "PacedMapModel" 476 M_Mo_does := (tk_9 95 (by decide +kernel) rfl)
theorem lk_Mo_479 : LK "PacedMapModel" 479 M_Mo_holds := (tk_9 116 (by decide +kernel) rfl)
theorem lk_Mo_482 : LK "PacedMapModel" 482 M_Mo_behindEnds := (tk_9 120 (by decide +kernel) rfl)
theorem lk_Mo_487 : LK "PacedMapModel" 487 M_Mo_lives := (tk_9 91 (by decide +kernel) rfl)
theorem lk_Mo_493 : LK "PacedMapModel" 493 M_Mo_keeps := (tk_9 132 (by decide +kernel) rfl)
theorem lk_Mo_496 : LK "PacedMapModel" 496 M_Mo_brings := (tk_9 136 (by decide +kernel) rfl)
theorem lk_Mo_502 : LK "PacedMapModel" 502 M_Mo_copies := (tk_9 144 (by decide +kernel) rfl)
theorem lo_PM_1 : Cond.methodLink "PacedMap" 1 objectInit ∈ TbL := (tk_1 27 (by decide +kernel) rfl)
theorem lk_PM_17 : LK "PacedMap" 17 M_Text_init := (tk_1 34 (by decide +kernel) rfl)
theorem lk_PM_24 : LN "PacedMap" 24 M_Town_init := ⟨"PacedMap", (tk_1 156 (by decide +kernel) rfl)⟩
theorem lk_PM_34 : LN "PacedMap" 34 M_Days_init := ⟨"PacedMap", (tk_2 11 (by decide +kernel) rfl)⟩
theorem lk_PM_52 : LN "PacedMap" 52 M_Chart_init := ⟨"PacedMap", (tk_2 48 (by decide +kernel) rfl)⟩
theorem lk_PM_59 : LN "PacedMap" 59 M_Doubts_init := ⟨"PacedMap", (tk_2 88 (by decide +kernel) rfl)⟩
theorem lk_PM_66 : LN "PacedMap" 66 M_Paths_init := ⟨"PacedMap", (tk_2 143 (by decide +kernel) rfl)⟩
theorem lk_PM_73 : LN "PacedMap" 73 M_Game_init := ⟨"PacedMap", (tk_2 174 (by decide +kernel) rfl)⟩
theorem lk_PM_80 : LN "PacedMap" 80 M_Life_init := ⟨"PacedMap", (tk_2 199 (by decide +kernel) rfl)⟩
theorem lk_PM_107 : LN "PacedMap" 107 M_Tray_init := ⟨"PacedMap", (tk_2 224 (by decide +kernel) rfl)⟩
theorem lk_PM_108 : LK "PacedMap" 108 M_PM_within := (tk_3 79 (by decide +kernel) rfl)
theorem lk_PM_112 : LK "PacedMap" 112 M_PM_refuse := (tk_3 82 (by decide +kernel) rfl)
theorem lk_PM_116 : LK "PacedMap" 116 M_Tray_begin := (tk_3 86 (by decide +kernel) rfl)
theorem lk_PM_120 : LK "PacedMap" 120 M_PM_accept := (tk_3 93 (by decide +kernel) rfl)
theorem lk_PM_124 : LK "PacedMap" 124 M_PM_spotFault := (tk_3 101 (by decide +kernel) rfl)
theorem lk_PM_128 : LK "PacedMap" 128 M_Tray_put := (tk_3 105 (by decide +kernel) rfl)
theorem lk_PM_132 : LK "PacedMap" 132 M_PM_fail := (tk_3 118 (by decide +kernel) rfl)
theorem lk_PM_146 : LK "PacedMap" 146 M_Tray_holds := (tk_3 126 (by decide +kernel) rfl)
theorem lk_PM_149 : Cond.methodLink "PacedMap" 149 arraycopyName ∈ TbL := (tk_3 130 (by decide +kernel) rfl)
theorem lk_PM_158 : LK "PacedMap" 158 M_Text_feedFour := (tk_3 137 (by decide +kernel) rfl)
theorem lk_PM_162 : LK "PacedMap" 162 M_Text_begin := (tk_3 145 (by decide +kernel) rfl)
theorem lk_PM_166 : LK "PacedMap" 166 M_TownText_init := (tk_3 190 (by decide +kernel) rfl)
theorem lk_PM_169 : LK "PacedMap" 169 M_TownText_parse := (tk_3 204 (by decide +kernel) rfl)
theorem lk_PM_172 : LK "PacedMap" 172 M_Town_copyFrom := (tk_4 67 (by decide +kernel) rfl)
theorem lk_PM_176 : LK "PacedMap" 176 M_Days_clear := (tk_4 72 (by decide +kernel) rfl)
theorem lk_PM_182 : LK "PacedMap" 182 M_PM_answer := (tk_4 76 (by decide +kernel) rfl)
theorem lk_PM_187 : LK "PacedMap" 187 M_DaysText_init := (tk_4 86 (by decide +kernel) rfl)
theorem lk_PM_190 : LK "PacedMap" 190 M_DaysText_parse := (tk_4 106 (by decide +kernel) rfl)
theorem lk_PM_191 : LK "PacedMap" 191 M_Days_copyFrom := (tk_4 160 (by decide +kernel) rfl)
theorem lk_PM_221 : LK "PacedMap" 221 M_PM_toldByChart := (tk_4 173 (by decide +kernel) rfl)
theorem lk_PM_227 : LK "PacedMap" 227 M_Town_turnedBy := (tk_5 35 (by decide +kernel) rfl)
theorem lk_PM_230 : LK "PacedMap" 230 M_Town_isLeft := (tk_5 36 (by decide +kernel) rfl)
theorem lk_PM_233 : LK "PacedMap" 233 M_Town_strideBy := (tk_5 37 (by decide +kernel) rfl)
theorem lk_PM_236 : LK "PacedMap" 236 M_Town_legsToldBy := (tk_5 38 (by decide +kernel) rfl)
theorem lk_PM_254 : LK "PacedMap" 254 M_Town_yardsEast := (tk_5 46 (by decide +kernel) rfl)
theorem lk_PM_257 : LK "PacedMap" 257 M_Town_yardsNorth := (tk_5 51 (by decide +kernel) rfl)
theorem lk_PM_260 : LK "PacedMap" 260 M_Chart_draw := (tk_4 177 (by decide +kernel) rfl)
theorem lk_PM_263 : LK "PacedMap" 263 M_Chart_canMiss := (tk_5 56 (by decide +kernel) rfl)
theorem lk_PM_267 : LK "PacedMap" 267 M_Chart_missOf := (tk_5 57 (by decide +kernel) rfl)
theorem lk_PM_271 : LK "PacedMap" 271 M_Chart_lies := (tk_5 62 (by decide +kernel) rfl)
theorem lk_PM_280 : LK "PacedMap" 280 M_JMath_absI := (tk_5 67 (by decide +kernel) rfl)
theorem lk_PM_285 : LK "PacedMap" 285 M_Town_legsThere := (tk_5 12 (by decide +kernel) rfl)
theorem lk_PM_289 : LK "PacedMap" 289 M_Chart_trace := (tk_5 72 (by decide +kernel) rfl)
theorem lk_PM_293 : LK "PacedMap" 293 M_Chart_sameParts := (tk_5 73 (by decide +kernel) rfl)
theorem lk_PM_296 : LK "PacedMap" 296 M_PM_twoPlaces := (tk_5 78 (by decide +kernel) rfl)
theorem lk_PM_299 : LK "PacedMap" 299 M_PM_canBePaces := (tk_5 82 (by decide +kernel) rfl)
theorem lk_PM_302 : LK "PacedMap" 302 M_Town_addLeg := (tk_5 85 (by decide +kernel) rfl)
theorem lk_PM_306 : LK "PacedMap" 306 M_Town_strikeLeg := (tk_5 94 (by decide +kernel) rfl)
theorem lk_PM_309 : LK "PacedMap" 309 M_JInt_bitCount := (tk_5 13 (by decide +kernel) rfl)
theorem lk_PM_314 : LK "PacedMap" 314 M_Town_restoreLeg := (tk_5 104 (by decide +kernel) rfl)
theorem lk_PM_317 : LK "PacedMap" 317 M_Town_addPlace := (tk_5 116 (by decide +kernel) rfl)
theorem lk_PM_321 : LK "PacedMap" 321 M_Town_walkAlong := (tk_5 121 (by decide +kernel) rfl)
theorem lk_PM_324 : LK "PacedMap" 324 M_Doubts_findOut := (tk_5 138 (by decide +kernel) rfl)
theorem lk_PM_330 : LK "PacedMap" 330 M_PM_canBeWalkers := (tk_5 160 (by decide +kernel) rfl)
theorem lk_PM_333 : LK "PacedMap" 333 M_Doubts_findFits := (tk_5 164 (by decide +kernel) rfl)
theorem lk_PM_339 : LK "PacedMap" 339 M_PM_has := (tk_5 187 (by decide +kernel) rfl)
theorem lk_PM_342 : LK "PacedMap" 342 M_Doubts_firstOf := (tk_5 188 (by decide +kernel) rfl)
theorem lk_PM_345 : LK "PacedMap" 345 M_Doubts_waysWith := (tk_5 196 (by decide +kernel) rfl)
theorem lk_PM_348 : LK "PacedMap" 348 M_PM_acceptFraction := (tk_5 200 (by decide +kernel) rfl)
theorem lk_PM_352 : LK "PacedMap" 352 M_Doubts_findBestPair := (tk_5 211 (by decide +kernel) rfl)
theorem lk_PM_362 : LK "PacedMap" 362 M_Paths_find := (tk_5 232 (by decide +kernel) rfl)
theorem lk_PM_375 : LK "PacedMap" 375 M_PM_cornersFault := (tk_6 25 (by decide +kernel) rfl)
theorem lk_PM_379 : LK "PacedMap" 379 M_PM_twiceArea := (tk_6 29 (by decide +kernel) rfl)
theorem lk_PM_383 : LK "PacedMap" 383 M_JMath_absJ := (tk_6 33 (by decide +kernel) rfl)
theorem lk_PM_388 : LK "PacedMap" 388 M_Game_begin := (tk_6 41 (by decide +kernel) rfl)
theorem lk_PM_390 : LK "PacedMap" 390 M_Game_endOfBestPlay := (tk_6 47 (by decide +kernel) rfl)
theorem lk_PM_393 : LK "PacedMap" 393 M_Game_firstBestLeg := (tk_6 71 (by decide +kernel) rfl)
theorem lk_PM_396 : LK "PacedMap" 396 M_PM_choose := (tk_6 79 (by decide +kernel) rfl)
theorem lk_PM_400 : LK "PacedMap" 400 M_PM_power := (tk_6 82 (by decide +kernel) rfl)
theorem lk_PM_403 : LK "PacedMap" 403 M_Town_yardsOf := (tk_6 89 (by decide +kernel) rfl)
theorem lk_PM_406 : LK "PacedMap" 406 M_Chart_liesSet := (tk_4 228 (by decide +kernel) rfl)
theorem lk_PM_411 : LK "PacedMap" 411 M_Life_run := (tk_6 101 (by decide +kernel) rfl)
theorem lk_PM_419 : LK "PacedMap" 419 M_PM_commonDivisor := (tk_5 204 (by decide +kernel) rfl)
theorem lk_PM_424 : LK "PacedMap" 424 M_Chart_missSet := (tk_4 237 (by decide +kernel) rfl)
theorem lk_PM_430 : LK "PacedMap" 430 M_Chart_closes := (tk_5 19 (by decide +kernel) rfl)
theorem lk_PM_433 : LK "PacedMap" 433 M_Chart_bridges := (tk_5 23 (by decide +kernel) rfl)
theorem lo_Paths_3 : Cond.methodLink "PacedMap$Paths" 3 objectInit ∈ TbL := (tk_2 146 (by decide +kernel) rfl)
theorem lk_Paths_34 : LK "PacedMap$Paths" 34 M_Paths_measureAll := (tk_5 236 (by decide +kernel) rfl)
theorem lk_Paths_41 : LK "PacedMap$Paths" 41 M_Paths_walkOn := (tk_6 8 (by decide +kernel) rfl)
theorem lk_Paths_45 : LK "PacedMap$Paths" 45 M_JArr_fillI := (tk_6 0 (by decide +kernel) rfl)
theorem lk_Paths_54 : LK "PacedMap$Paths" 54 M_Town_legsThere := (tk_6 1 (by decide +kernel) rfl)
theorem lk_Paths_58 : LN "PacedMap$Paths" 58 M_PM_has := ⟨"PacedMap", (tk_6 2 (by decide +kernel) rfl)⟩
theorem lk_Paths_62 : LK "PacedMap$Paths" 62 M_Town_yardsAlong := (tk_6 3 (by decide +kernel) rfl)
theorem lk_Paths_72 : LK "PacedMap$Paths" 72 M_Paths_shorten := (tk_6 4 (by decide +kernel) rfl)
theorem lk_Paths_76 : Cond.methodLink "PacedMap$Paths" 76 arraycopyName ∈ TbL := (tk_6 12 (by decide +kernel) rfl)
theorem lk_Paths_82 : LK "PacedMap$Paths" 82 M_Paths_tryEachNext := (tk_6 13 (by decide +kernel) rfl)
theorem lo_Text_3 : Cond.methodLink "PacedMap$Text" 3 objectInit ∈ TbL := (tk_1 37 (by decide +kernel) rfl)
theorem lk_Text_66 : LK "PacedMap$Text" 66 M_JStr_length := (tk_1 39 (by decide +kernel) rfl)
theorem lk_Text_71 : LK "PacedMap$Text" 71 M_JStr_charAt := (tk_1 49 (by decide +kernel) rfl)
theorem lk_Text_75 : LK "PacedMap$Text" 75 M_Text_withLetter := (tk_1 87 (by decide +kernel) rfl)
theorem lk_Text_79 : LK "PacedMap$Text" 79 M_JMath_min := (tk_3 149 (by decide +kernel) rfl)
theorem lk_Text_85 : LK "PacedMap$Text" 85 M_Text_isBlank := (tk_3 152 (by decide +kernel) rfl)
theorem lk_Text_89 : LK "PacedMap$Text" 89 M_Text_scan := (tk_3 155 (by decide +kernel) rfl)
theorem lk_Text_93 : LK "PacedMap$Text" 93 M_Text_addToken := (tk_3 170 (by decide +kernel) rfl)
theorem lk_Text_97 : LK "PacedMap$Text" 97 M_Text_look := (tk_3 184 (by decide +kernel) rfl)
theorem lk_Text_102 : LK "PacedMap$Text" 102 M_Text_isLetter := (tk_3 159 (by decide +kernel) rfl)
theorem lk_Text_105 : LK "PacedMap$Text" 105 M_Text_scanWord := (tk_3 162 (by decide +kernel) rfl)
theorem lk_Text_108 : LK "PacedMap$Text" 108 M_Text_isDigit := (tk_3 174 (by decide +kernel) rfl)
theorem lk_Text_111 : LK "PacedMap$Text" 111 M_Text_scanNumber := (tk_3 177 (by decide +kernel) rfl)
theorem lk_Text_114 : LK "PacedMap$Text" 114 M_Text_isSign := (tk_3 181 (by decide +kernel) rfl)
theorem lk_Text_117 : LK "PacedMap$Text" 117 M_Text_wordOf := (tk_3 166 (by decide +kernel) rfl)
theorem lk_Text_121 : LK "PacedMap$Text" 121 M_Text_faultHere := (tk_4 0 (by decide +kernel) rfl)
theorem lk_Text_124 : LK "PacedMap$Text" 124 M_Text_cannotStand := (tk_3 236 (by decide +kernel) rfl)
theorem lk_Text_128 : LK "PacedMap$Text" 128 M_Text_next := (tk_4 1 (by decide +kernel) rfl)
theorem lo_Town_3 : Cond.methodLink "PacedMap$Town" 3 objectInit ∈ TbL := (tk_1 159 (by decide +kernel) rfl)
theorem lk_Town_59 : Cond.methodLink "PacedMap$Town" 59 arraycopyName ∈ TbL := (tk_4 71 (by decide +kernel) rfl)
theorem lk_Town_65 : LK "PacedMap$Town" 65 M_Town_isLeft := (tk_4 189 (by decide +kernel) rfl)
theorem lk_Town_69 : LK "PacedMap$Town" 69 M_Town_strideBy := (tk_4 192 (by decide +kernel) rfl)
theorem lk_Town_73 : LK "PacedMap$Town" 73 M_Town_turnedBy := (tk_4 195 (by decide +kernel) rfl)
theorem lk_Town_76 : LK "PacedMap$Town" 76 M_Town_rightEast := (tk_5 50 (by decide +kernel) rfl)
theorem lk_Town_80 : LK "PacedMap$Town" 80 M_Town_rightNorth := (tk_5 55 (by decide +kernel) rfl)
theorem lk_Town_83 : LK "PacedMap$Town" 83 M_JMath_absI := (tk_5 129 (by decide +kernel) rfl)
theorem lk_Town_88 : LN "PacedMap$Town" 88 M_PM_has := ⟨"PacedMap", (tk_5 99 (by decide +kernel) rfl)⟩
theorem lk_Town_92 : LK "PacedMap$Town" 92 M_Town_yardsAlong := (tk_5 125 (by decide +kernel) rfl)
theorem lk_Town_95 : LN "PacedMap$Town" 95 M_PM_within := ⟨"PacedMap", (tk_5 98 (by decide +kernel) rfl)⟩
theorem lo_TownText_3 : Cond.methodLink "PacedMap$TownText" 3 objectInit ∈ TbL := (tk_3 193 (by decide +kernel) rfl)
theorem lk_TownText_23 : LK "PacedMap$TownText" 23 M_Town_clear := (tk_3 208 (by decide +kernel) rfl)
theorem lk_TownText_28 : LK "PacedMap$TownText" 28 M_Text_atEnd := (tk_3 212 (by decide +kernel) rfl)
theorem lk_TownText_34 : LK "PacedMap$TownText" 34 M_TownText_takePart := (tk_3 216 (by decide +kernel) rfl)
theorem lk_TownText_37 : LK "PacedMap$TownText" 37 M_Text_takeSign := (tk_4 63 (by decide +kernel) rfl)
theorem lk_TownText_41 : LK "PacedMap$TownText" 41 M_Text_cannotStand := (tk_4 61 (by decide +kernel) rfl)
theorem lk_TownText_48 : LK "PacedMap$TownText" 48 M_TownText_takeOdds := (tk_3 220 (by decide +kernel) rfl)
theorem lk_TownText_51 : LK "PacedMap$TownText" 51 M_TownText_takePlace := (tk_4 2 (by decide +kernel) rfl)
theorem lk_TownText_54 : LK "PacedMap$TownText" 54 M_TownText_takeWalker := (tk_4 26 (by decide +kernel) rfl)
theorem lk_TownText_57 : LK "PacedMap$TownText" 57 M_TownText_takeLeg := (tk_4 41 (by decide +kernel) rfl)
theorem lk_TownText_60 : LK "PacedMap$TownText" 60 M_Text_faultHere := (tk_3 224 (by decide +kernel) rfl)
theorem lk_TownText_63 : LK "PacedMap$TownText" 63 M_Text_next := (tk_3 228 (by decide +kernel) rfl)
theorem lk_TownText_66 : LK "PacedMap$TownText" 66 M_Text_takeNumber := (tk_3 232 (by decide +kernel) rfl)
theorem lk_TownText_79 : LK "PacedMap$TownText" 79 M_TownText_takeNewName := (tk_4 6 (by decide +kernel) rfl)
theorem lk_TownText_86 : LK "PacedMap$TownText" 86 M_Town_addPlace := (tk_4 22 (by decide +kernel) rfl)
theorem lk_TownText_93 : LK "PacedMap$TownText" 93 M_TownText_takeNumberBehind := (tk_4 30 (by decide +kernel) rfl)
theorem lk_TownText_97 : LK "PacedMap$TownText" 97 M_Town_faultOf := (tk_4 34 (by decide +kernel) rfl)
theorem lk_TownText_101 : LK "PacedMap$TownText" 101 M_Town_addWalker := (tk_4 37 (by decide +kernel) rfl)
theorem lk_TownText_108 : LK "PacedMap$TownText" 108 M_TownText_takeKnownWalker := (tk_4 45 (by decide +kernel) rfl)
theorem lk_TownText_112 : LK "PacedMap$TownText" 112 M_TownText_takeKnownPlace := (tk_4 49 (by decide +kernel) rfl)
theorem lk_TownText_116 : LK "PacedMap$TownText" 116 M_Town_addLeg := (tk_4 53 (by decide +kernel) rfl)
theorem lk_TownText_124 : LK "PacedMap$TownText" 124 M_TownText_takePaces := (tk_4 57 (by decide +kernel) rfl)
theorem lk_TownText_131 : LN "PacedMap$TownText" 131 M_PM_within := ⟨"PacedMap", (tk_4 62 (by decide +kernel) rfl)⟩
theorem lk_TownText_134 : LK "PacedMap$TownText" 134 M_Text_nameHere := (tk_4 10 (by decide +kernel) rfl)
theorem lk_TownText_137 : LK "PacedMap$TownText" 137 M_Town_placeNamed := (tk_4 14 (by decide +kernel) rfl)
theorem lk_TownText_140 : LK "PacedMap$TownText" 140 M_Town_walkerNamed := (tk_4 18 (by decide +kernel) rfl)
theorem lo_Tray_3 : Cond.methodLink "PacedMap$Tray" 3 objectInit ∈ TbL := (tk_2 227 (by decide +kernel) rfl)
theorem lk_Tray_26 : LK "PacedMap$Tray" 26 M_JArr_fillJ := (tk_3 90 (by decide +kernel) rfl)
theorem lk_Tray_32 : LN "PacedMap$Tray" 32 M_PM_within := ⟨"PacedMap", (tk_3 109 (by decide +kernel) rfl)⟩
theorem lk_Tray_36 : LK "PacedMap$Tray" 36 M_Tray_cut := (tk_3 110 (by decide +kernel) rfl)

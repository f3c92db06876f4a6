theorem tk_1 (i : Nat) {w : Cond} (hi : tables_1_1[i]? = some w) (ho : okW w = true) : w ∈ TbL := List.mem_filter.mpr ⟨List.mem_append_right _ (have h := List.mem_of_getElem? hi; List.mem_append_left _ h), ho⟩
theorem tk_2 (i : Nat) {w : Cond} (hi : tables_1_2[i]? = some w) (ho : okW w = true) : w ∈ TbL := List.mem_filter.mpr ⟨List.mem_append_right _ (have h := List.mem_of_getElem? hi; List.mem_append_right _ (List.mem_append_left _ h)), ho⟩
theorem tk_3 (i : Nat) {w : Cond} (hi : tables_1_3[i]? = some w) (ho : okW w = true) : w ∈ TbL := List.mem_filter.mpr ⟨List.mem_append_right _ (have h := List.mem_of_getElem? hi; List.mem_append_right _ (List.mem_append_right _ (List.mem_append_left _ h))), ho⟩
theorem tk_4 (i : Nat) {w : Cond} (hi : tables_1_4[i]? = some w) (ho : okW w = true) : w ∈ TbL := List.mem_filter.mpr ⟨List.mem_append_right _ (have h := List.mem_of_getElem? hi; List.mem_append_right _ (List.mem_append_right _ (List.mem_append_right _ (List.mem_append_left _ h)))), ho⟩
theorem tk_5 (i : Nat) {w : Cond} (hi : tables_1_5[i]? = some w) (ho : okW w = true) : w ∈ TbL := List.mem_filter.mpr ⟨List.mem_append_right _ (have h := List.mem_of_getElem? hi; List.mem_append_right _ (List.mem_append_right _ (List.mem_append_right _ (List.mem_append_right _ (List.mem_append_left _ h))))), ho⟩
theorem tk_6 (i : Nat) {w : Cond} (hi : tables_1_6[i]? = some w) (ho : okW w = true) : w ∈ TbL := List.mem_filter.mpr ⟨List.mem_append_right _ (have h := List.mem_of_getElem? hi; List.mem_append_right _ (List.mem_append_right _ (List.mem_append_right _ (List.mem_append_right _ (List.mem_append_right _ (List.mem_append_left _ h)))))), ho⟩
theorem tk_7 (i : Nat) {w : Cond} (hi : tables_1_7[i]? = some w) (ho : okW w = true) : w ∈ TbL := List.mem_filter.mpr ⟨List.mem_append_right _ (have h := List.mem_of_getElem? hi; List.mem_append_right _ (List.mem_append_right _ (List.mem_append_right _ (List.mem_append_right _ (List.mem_append_right _ (List.mem_append_right _ (List.mem_append_left _ h))))))), ho⟩
theorem tk_8 (i : Nat) {w : Cond} (hi : tables_1_8[i]? = some w) (ho : okW w = true) : w ∈ TbL := List.mem_filter.mpr ⟨List.mem_append_right _ (have h := List.mem_of_getElem? hi; List.mem_append_right _ (List.mem_append_right _ (List.mem_append_right _ (List.mem_append_right _ (List.mem_append_right _ (List.mem_append_right _ (List.mem_append_right _ (List.mem_append_left _ h)))))))), ho⟩
theorem tk_9 (i : Nat) {w : Cond} (hi : tables_1_9[i]? = some w) (ho : okW w = true) : w ∈ TbL := List.mem_filter.mpr ⟨List.mem_append_right _ (have h := List.mem_of_getElem? hi; List.mem_append_right _ (List.mem_append_right _ (List.mem_append_right _ (List.mem_append_right _ (List.mem_append_right _ (List.mem_append_right _ (List.mem_append_right _ (List.mem_append_right _ (h))))))))), ho⟩
theorem wl_Chart : ∀ w ∈ u_ws "PacedMap$Chart" F_Chart 9, w ∈ TbL := by
  intro w hw
  obtain ⟨k, hk, rfl⟩ := List.mem_map.mp hw
  have hk2 := List.mem_range.mp hk
  match k, hk2 with
  | 0, _ => exact (tk_2 66 (by decide +kernel) rfl)
  | 1, _ => exact (tk_2 68 (by decide +kernel) rfl)
  | 2, _ => exact (tk_2 70 (by decide +kernel) rfl)
  | 3, _ => exact (tk_2 72 (by decide +kernel) rfl)
  | 4, _ => exact (tk_2 74 (by decide +kernel) rfl)
  | 5, _ => exact (tk_2 76 (by decide +kernel) rfl)
  | 6, _ => exact (tk_2 78 (by decide +kernel) rfl)
  | 7, _ => exact (tk_2 80 (by decide +kernel) rfl)
  | 8, _ => exact (tk_2 82 (by decide +kernel) rfl)
  | k + 9, h => exact absurd h (by omega)
theorem wl_Days : ∀ w ∈ u_ws "PacedMap$Days" F_Days 6, w ∈ TbL := by
  intro w hw
  obtain ⟨k, hk, rfl⟩ := List.mem_map.mp hw
  have hk2 := List.mem_range.mp hk
  match k, hk2 with
  | 0, _ => exact (tk_2 31 (by decide +kernel) rfl)
  | 1, _ => exact (tk_2 33 (by decide +kernel) rfl)
  | 2, _ => exact (tk_2 35 (by decide +kernel) rfl)
  | 3, _ => exact (tk_2 37 (by decide +kernel) rfl)
  | 4, _ => exact (tk_2 39 (by decide +kernel) rfl)
  | 5, _ => exact (tk_2 41 (by decide +kernel) rfl)
  | k + 6, h => exact absurd h (by omega)
theorem wl_DaysText : ∀ w ∈ u_ws "PacedMap$DaysText" F_DaysText 5, w ∈ TbL := by
  intro w hw
  obtain ⟨k, hk, rfl⟩ := List.mem_map.mp hw
  have hk2 := List.mem_range.mp hk
  match k, hk2 with
  | 0, _ => exact (tk_4 95 (by decide +kernel) rfl)
  | 1, _ => exact (tk_4 97 (by decide +kernel) rfl)
  | 2, _ => exact (tk_4 99 (by decide +kernel) rfl)
  | 3, _ => exact (tk_4 101 (by decide +kernel) rfl)
  | 4, _ => exact (tk_4 103 (by decide +kernel) rfl)
  | k + 5, h => exact absurd h (by omega)
theorem wl_Doubts : ∀ w ∈ u_ws "PacedMap$Doubts" F_Doubts 14, w ∈ TbL := by
  intro w hw
  obtain ⟨k, hk, rfl⟩ := List.mem_map.mp hw
  have hk2 := List.mem_range.mp hk
  match k, hk2 with
  | 0, _ => exact (tk_2 112 (by decide +kernel) rfl)
  | 1, _ => exact (tk_2 114 (by decide +kernel) rfl)
  | 2, _ => exact (tk_2 116 (by decide +kernel) rfl)
  | 3, _ => exact (tk_2 118 (by decide +kernel) rfl)
  | 4, _ => exact (tk_2 120 (by decide +kernel) rfl)
  | 5, _ => exact (tk_2 122 (by decide +kernel) rfl)
  | 6, _ => exact (tk_2 124 (by decide +kernel) rfl)
  | 7, _ => exact (tk_2 126 (by decide +kernel) rfl)
  | 8, _ => exact (tk_2 128 (by decide +kernel) rfl)
  | 9, _ => exact (tk_2 130 (by decide +kernel) rfl)
  | 10, _ => exact (tk_2 132 (by decide +kernel) rfl)
  | 11, _ => exact (tk_2 134 (by decide +kernel) rfl)
  | 12, _ => exact (tk_2 136 (by decide +kernel) rfl)
  | 13, _ => exact (tk_2 138 (by decide +kernel) rfl)
  | k + 14, h => exact absurd h (by omega)
theorem wl_Game : ∀ w ∈ u_ws "PacedMap$Game" F_Game 6, w ∈ TbL := by
  intro w hw
  obtain ⟨k, hk, rfl⟩ := List.mem_map.mp hw
  have hk2 := List.mem_range.mp hk
  match k, hk2 with
  | 0, _ => exact (tk_2 184 (by decide +kernel) rfl)
  | 1, _ => exact (tk_2 186 (by decide +kernel) rfl)
  | 2, _ => exact (tk_2 188 (by decide +kernel) rfl)
  | 3, _ => exact (tk_2 190 (by decide +kernel) rfl)
  | 4, _ => exact (tk_2 192 (by decide +kernel) rfl)
  | 5, _ => exact (tk_2 194 (by decide +kernel) rfl)
  | k + 6, h => exact absurd h (by omega)
theorem wl_Life : ∀ w ∈ u_ws "PacedMap$Life" F_Life 5, w ∈ TbL := by
  intro w hw
  obtain ⟨k, hk, rfl⟩ := List.mem_map.mp hw
  have hk2 := List.mem_range.mp hk
  match k, hk2 with
  | 0, _ => exact (tk_2 212 (by decide +kernel) rfl)
  | 1, _ => exact (tk_2 214 (by decide +kernel) rfl)
  | 2, _ => exact (tk_2 216 (by decide +kernel) rfl)
  | 3, _ => exact (tk_2 218 (by decide +kernel) rfl)
  | 4, _ => exact (tk_2 220 (by decide +kernel) rfl)
  | k + 5, h => exact absurd h (by omega)
theorem wl_Paths : ∀ w ∈ u_ws "PacedMap$Paths" F_Paths 7, w ∈ TbL := by
  intro w hw
  obtain ⟨k, hk, rfl⟩ := List.mem_map.mp hw
  have hk2 := List.mem_range.mp hk
  match k, hk2 with
  | 0, _ => exact (tk_2 157 (by decide +kernel) rfl)
  | 1, _ => exact (tk_2 159 (by decide +kernel) rfl)
  | 2, _ => exact (tk_2 161 (by decide +kernel) rfl)
  | 3, _ => exact (tk_2 163 (by decide +kernel) rfl)
  | 4, _ => exact (tk_2 165 (by decide +kernel) rfl)
  | 5, _ => exact (tk_2 167 (by decide +kernel) rfl)
  | 6, _ => exact (tk_2 169 (by decide +kernel) rfl)
  | k + 7, h => exact absurd h (by omega)
theorem wl_Text : ∀ w ∈ u_ws "PacedMap$Text" F_Text 16, w ∈ TbL := by
  intro w hw
  obtain ⟨k, hk, rfl⟩ := List.mem_map.mp hw
  have hk2 := List.mem_range.mp hk
  match k, hk2 with
  | 0, _ => exact (tk_1 118 (by decide +kernel) rfl)
  | 1, _ => exact (tk_1 120 (by decide +kernel) rfl)
  | 2, _ => exact (tk_1 122 (by decide +kernel) rfl)
  | 3, _ => exact (tk_1 124 (by decide +kernel) rfl)
  | 4, _ => exact (tk_1 126 (by decide +kernel) rfl)
  | 5, _ => exact (tk_1 128 (by decide +kernel) rfl)
  | 6, _ => exact (tk_1 130 (by decide +kernel) rfl)
  | 7, _ => exact (tk_1 132 (by decide +kernel) rfl)
  | 8, _ => exact (tk_1 134 (by decide +kernel) rfl)
  | 9, _ => exact (tk_1 136 (by decide +kernel) rfl)
  | 10, _ => exact (tk_1 138 (by decide +kernel) rfl)
  | 11, _ => exact (tk_1 140 (by decide +kernel) rfl)
  | 12, _ => exact (tk_1 142 (by decide +kernel) rfl)
  | 13, _ => exact (tk_1 144 (by decide +kernel) rfl)
  | 14, _ => exact (tk_1 146 (by decide +kernel) rfl)
  | 15, _ => exact (tk_1 148 (by decide +kernel) rfl)
  | k + 16, h => exact absurd h (by omega)
theorem wl_Town : ∀ w ∈ u_ws "PacedMap$Town" F_Town 15, w ∈ TbL := by
  intro w hw
  obtain ⟨k, hk, rfl⟩ := List.mem_map.mp hw
  have hk2 := List.mem_range.mp hk
  match k, hk2 with
  | 0, _ => exact (tk_1 218 (by decide +kernel) rfl)
  | 1, _ => exact (tk_1 220 (by decide +kernel) rfl)
  | 2, _ => exact (tk_1 222 (by decide +kernel) rfl)
  | 3, _ => exact (tk_1 224 (by decide +kernel) rfl)
  | 4, _ => exact (tk_1 226 (by decide +kernel) rfl)
  | 5, _ => exact (tk_1 228 (by decide +kernel) rfl)
  | 6, _ => exact (tk_1 230 (by decide +kernel) rfl)
  | 7, _ => exact (tk_1 232 (by decide +kernel) rfl)
  | 8, _ => exact (tk_1 234 (by decide +kernel) rfl)
  | 9, _ => exact (tk_1 236 (by decide +kernel) rfl)
  | 10, _ => exact (tk_1 238 (by decide +kernel) rfl)
  | 11, _ => exact (tk_2 0 (by decide +kernel) rfl)
  | 12, _ => exact (tk_2 2 (by decide +kernel) rfl)
  | 13, _ => exact (tk_2 4 (by decide +kernel) rfl)
  | 14, _ => exact (tk_2 6 (by decide +kernel) rfl)
  | k + 15, h => exact absurd h (by omega)
theorem wl_TownText : ∀ w ∈ u_ws "PacedMap$TownText" F_TownText 3, w ∈ TbL := by
  intro w hw
  obtain ⟨k, hk, rfl⟩ := List.mem_map.mp hw
  have hk2 := List.mem_range.mp hk
  match k, hk2 with
  | 0, _ => exact (tk_3 197 (by decide +kernel) rfl)
  | 1, _ => exact (tk_3 199 (by decide +kernel) rfl)
  | 2, _ => exact (tk_3 201 (by decide +kernel) rfl)
  | k + 3, h => exact absurd h (by omega)
theorem wl_Tray : ∀ w ∈ u_ws "PacedMap$Tray" F_Tray 4, w ∈ TbL := by
  intro w hw
  obtain ⟨k, hk, rfl⟩ := List.mem_map.mp hw
  have hk2 := List.mem_range.mp hk
  match k, hk2 with
  | 0, _ => exact (tk_2 236 (by decide +kernel) rfl)
  | 1, _ => exact (tk_2 238 (by decide +kernel) rfl)
  | 2, _ => exact (tk_3 0 (by decide +kernel) rfl)
  | 3, _ => exact (tk_3 2 (by decide +kernel) rfl)
  | k + 4, h => exact absurd h (by omega)
theorem wl_PM : ∀ w ∈ u_ws "PacedMap" F_PM 19, w ∈ TbL := by
  intro w hw
  obtain ⟨k, hk, rfl⟩ := List.mem_map.mp hw
  have hk2 := List.mem_range.mp hk
  match k, hk2 with
  | 0, _ => exact (tk_3 24 (by decide +kernel) rfl)
  | 1, _ => exact (tk_3 26 (by decide +kernel) rfl)
  | 2, _ => exact (tk_3 28 (by decide +kernel) rfl)
  | 3, _ => exact (tk_3 30 (by decide +kernel) rfl)
  | 4, _ => exact (tk_3 32 (by decide +kernel) rfl)
  | 5, _ => exact (tk_3 34 (by decide +kernel) rfl)
  | 6, _ => exact (tk_3 36 (by decide +kernel) rfl)
  | 7, _ => exact (tk_3 38 (by decide +kernel) rfl)
  | 8, _ => exact (tk_3 40 (by decide +kernel) rfl)
  | 9, _ => exact (tk_3 42 (by decide +kernel) rfl)
  | 10, _ => exact (tk_3 44 (by decide +kernel) rfl)
  | 11, _ => exact (tk_3 46 (by decide +kernel) rfl)
  | 12, _ => exact (tk_3 48 (by decide +kernel) rfl)
  | 13, _ => exact (tk_3 50 (by decide +kernel) rfl)
  | 14, _ => exact (tk_3 52 (by decide +kernel) rfl)
  | 15, _ => exact (tk_3 54 (by decide +kernel) rfl)
  | 16, _ => exact (tk_3 56 (by decide +kernel) rfl)
  | 17, _ => exact (tk_3 58 (by decide +kernel) rfl)
  | 18, _ => exact (tk_3 60 (by decide +kernel) rfl)
  | k + 19, h => exact absurd h (by omega)
theorem wl_Mo : ∀ w ∈ u_ws "PacedMapModel" F_Mo 50, w ∈ TbL := by
  intro w hw
  obtain ⟨k, hk, rfl⟩ := List.mem_map.mp hw
  have hk2 := List.mem_range.mp hk
  match k, hk2 with
  | 0, _ => exact (tk_6 221 (by decide +kernel) rfl)
  | 1, _ => exact (tk_6 223 (by decide +kernel) rfl)
  | 2, _ => exact (tk_6 225 (by decide +kernel) rfl)
  | 3, _ => exact (tk_6 227 (by decide +kernel) rfl)
  | 4, _ => exact (tk_6 229 (by decide +kernel) rfl)
  | 5, _ => exact (tk_6 231 (by decide +kernel) rfl)
  | 6, _ => exact (tk_6 233 (by decide +kernel) rfl)
  | 7, _ => exact (tk_6 235 (by decide +kernel) rfl)
  | 8, _ => exact (tk_6 237 (by decide +kernel) rfl)
  | 9, _ => exact (tk_6 239 (by decide +kernel) rfl)
  | 10, _ => exact (tk_7 1 (by decide +kernel) rfl)
  | 11, _ => exact (tk_7 3 (by decide +kernel) rfl)
  | 12, _ => exact (tk_7 5 (by decide +kernel) rfl)
  | 13, _ => exact (tk_7 7 (by decide +kernel) rfl)
  | 14, _ => exact (tk_7 9 (by decide +kernel) rfl)
  | 15, _ => exact (tk_7 11 (by decide +kernel) rfl)
  | 16, _ => exact (tk_7 13 (by decide +kernel) rfl)
  | 17, _ => exact (tk_7 15 (by decide +kernel) rfl)
  | 18, _ => exact (tk_7 17 (by decide +kernel) rfl)
  | 19, _ => exact (tk_7 19 (by decide +kernel) rfl)
  | 20, _ => exact (tk_7 21 (by decide +kernel) rfl)
  | 21, _ => exact (tk_7 23 (by decide +kernel) rfl)
  | 22, _ => exact (tk_7 25 (by decide +kernel) rfl)
  | 23, _ => exact (tk_7 27 (by decide +kernel) rfl)
  | 24, _ => exact (tk_7 29 (by decide +kernel) rfl)
  | 25, _ => exact (tk_7 31 (by decide +kernel) rfl)
  | 26, _ => exact (tk_7 33 (by decide +kernel) rfl)
  | 27, _ => exact (tk_7 35 (by decide +kernel) rfl)
  | 28, _ => exact (tk_7 37 (by decide +kernel) rfl)
  | 29, _ => exact (tk_7 39 (by decide +kernel) rfl)
  | 30, _ => exact (tk_7 41 (by decide +kernel) rfl)
  | 31, _ => exact (tk_7 43 (by decide +kernel) rfl)
  | 32, _ => exact (tk_7 45 (by decide +kernel) rfl)
  | 33, _ => exact (tk_7 47 (by decide +kernel) rfl)
  | 34, _ => exact (tk_7 49 (by decide +kernel) rfl)
  | 35, _ => exact (tk_7 51 (by decide +kernel) rfl)
  | 36, _ => exact (tk_7 53 (by decide +kernel) rfl)
  | 37, _ => exact (tk_7 55 (by decide +kernel) rfl)
  | 38, _ => exact (tk_7 57 (by decide +kernel) rfl)
  | 39, _ => exact (tk_7 59 (by decide +kernel) rfl)
  | 40, _ => exact (tk_7 61 (by decide +kernel) rfl)
  | 41, _ => exact (tk_7 63 (by decide +kernel) rfl)
  | 42, _ => exact (tk_7 65 (by decide +kernel) rfl)
  | 43, _ => exact (tk_7 67 (by decide +kernel) rfl)
  | 44, _ => exact (tk_7 69 (by decide +kernel) rfl)
  | 45, _ => exact (tk_7 71 (by decide +kernel) rfl)
  | 46, _ => exact (tk_7 73 (by decide +kernel) rfl)
  | 47, _ => exact (tk_7 75 (by decide +kernel) rfl)
  | 48, _ => exact (tk_7 77 (by decide +kernel) rfl)
  | 49, _ => exact (tk_7 79 (by decide +kernel) rfl)
  | k + 50, h => exact absurd h (by omega)

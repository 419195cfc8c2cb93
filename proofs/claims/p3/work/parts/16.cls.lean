/-! ===== the classes of the worlds ===== -/
theorem bc_0 : vwCl[0]? = some (RX1, TX1, 7) := rfl
set_option maxRecDepth 20000 in
theorem in_0 : ∀ w ∈ u_ws RX1 TX1 7, w ∈ b_Ws := by
  intro w hw
  obtain ⟨k, hk, rfl⟩ := List.mem_map.mp hw
  have hk := List.mem_range.mp hk
  match k, hk with
  | 0, _ => exact bw_2 (List.mem_of_getElem? (i := 61) rfl) rfl
  | 1, _ => exact bw_2 (List.mem_of_getElem? (i := 63) rfl) rfl
  | 2, _ => exact bw_2 (List.mem_of_getElem? (i := 65) rfl) rfl
  | 3, _ => exact bw_2 (List.mem_of_getElem? (i := 67) rfl) rfl
  | 4, _ => exact bw_2 (List.mem_of_getElem? (i := 69) rfl) rfl
  | 5, _ => exact bw_2 (List.mem_of_getElem? (i := 71) rfl) rfl
  | 6, _ => exact bw_2 (List.mem_of_getElem? (i := 73) rfl) rfl
  | k + 7, h => exact absurd h (by omega)
theorem dv_0 : ∀ k, k < 7 → defaultValue (tyX1 k) = (if m_Y 0 k = 1 then .int 0 else if m_Y 0 k = 2 then .long 0 else .null) := by
  intro k hk
  match k, hk with
  | 0, _ => rfl
  | 1, _ => rfl
  | 2, _ => rfl
  | 3, _ => rfl
  | 4, _ => rfl
  | 5, _ => rfl
  | 6, _ => rfl
  | k + 7, h => exact absurd h (by omega)
theorem bc_1 : vwCl[1]? = some (RX2, TX2, 3) := rfl
set_option maxRecDepth 20000 in
theorem in_1 : ∀ w ∈ u_ws RX2 TX2 3, w ∈ b_Ws := by
  intro w hw
  obtain ⟨k, hk, rfl⟩ := List.mem_map.mp hw
  have hk := List.mem_range.mp hk
  match k, hk with
  | 0, _ => exact bw_1 (List.mem_of_getElem? (i := 49) rfl) rfl
  | 1, _ => exact bw_1 (List.mem_of_getElem? (i := 51) rfl) rfl
  | 2, _ => exact bw_1 (List.mem_of_getElem? (i := 53) rfl) rfl
  | k + 3, h => exact absurd h (by omega)
theorem dv_1 : ∀ k, k < 3 → defaultValue (tyX2 k) = (if m_Y 1 k = 1 then .int 0 else if m_Y 1 k = 2 then .long 0 else .null) := by
  intro k hk
  match k, hk with
  | 0, _ => rfl
  | 1, _ => rfl
  | 2, _ => rfl
  | k + 3, h => exact absurd h (by omega)
theorem bc_2 : vwCl[2]? = some (RX3, TX3, 8) := rfl
set_option maxRecDepth 20000 in
theorem in_2 : ∀ w ∈ u_ws RX3 TX3 8, w ∈ b_Ws := by
  intro w hw
  obtain ⟨k, hk, rfl⟩ := List.mem_map.mp hw
  have hk := List.mem_range.mp hk
  match k, hk with
  | 0, _ => exact bw_1 (List.mem_of_getElem? (i := 115) rfl) rfl
  | 1, _ => exact bw_1 (List.mem_of_getElem? (i := 117) rfl) rfl
  | 2, _ => exact bw_1 (List.mem_of_getElem? (i := 119) rfl) rfl
  | 3, _ => exact bw_1 (List.mem_of_getElem? (i := 121) rfl) rfl
  | 4, _ => exact bw_1 (List.mem_of_getElem? (i := 123) rfl) rfl
  | 5, _ => exact bw_1 (List.mem_of_getElem? (i := 125) rfl) rfl
  | 6, _ => exact bw_1 (List.mem_of_getElem? (i := 127) rfl) rfl
  | 7, _ => exact bw_1 (List.mem_of_getElem? (i := 129) rfl) rfl
  | k + 8, h => exact absurd h (by omega)
theorem dv_2 : ∀ k, k < 8 → defaultValue (tyX3 k) = (if m_Y 2 k = 1 then .int 0 else if m_Y 2 k = 2 then .long 0 else .null) := by
  intro k hk
  match k, hk with
  | 0, _ => rfl
  | 1, _ => rfl
  | 2, _ => rfl
  | 3, _ => rfl
  | 4, _ => rfl
  | 5, _ => rfl
  | 6, _ => rfl
  | 7, _ => rfl
  | k + 8, h => exact absurd h (by omega)
theorem bc_3 : vwCl[3]? = some (RX4, TX4, 11) := rfl
set_option maxRecDepth 20000 in
theorem in_3 : ∀ w ∈ u_ws RX4 TX4 11, w ∈ b_Ws := by
  intro w hw
  obtain ⟨k, hk, rfl⟩ := List.mem_map.mp hw
  have hk := List.mem_range.mp hk
  match k, hk with
  | 0, _ => exact bw_2 (List.mem_of_getElem? (i := 93) rfl) rfl
  | 1, _ => exact bw_2 (List.mem_of_getElem? (i := 95) rfl) rfl
  | 2, _ => exact bw_2 (List.mem_of_getElem? (i := 97) rfl) rfl
  | 3, _ => exact bw_2 (List.mem_of_getElem? (i := 99) rfl) rfl
  | 4, _ => exact bw_2 (List.mem_of_getElem? (i := 101) rfl) rfl
  | 5, _ => exact bw_2 (List.mem_of_getElem? (i := 103) rfl) rfl
  | 6, _ => exact bw_2 (List.mem_of_getElem? (i := 105) rfl) rfl
  | 7, _ => exact bw_2 (List.mem_of_getElem? (i := 107) rfl) rfl
  | 8, _ => exact bw_2 (List.mem_of_getElem? (i := 109) rfl) rfl
  | 9, _ => exact bw_2 (List.mem_of_getElem? (i := 111) rfl) rfl
  | 10, _ => exact bw_2 (List.mem_of_getElem? (i := 113) rfl) rfl
  | k + 11, h => exact absurd h (by omega)
theorem dv_3 : ∀ k, k < 11 → defaultValue (tyX4 k) = (if m_Y 3 k = 1 then .int 0 else if m_Y 3 k = 2 then .long 0 else .null) := by
  intro k hk
  match k, hk with
  | 0, _ => rfl
  | 1, _ => rfl
  | 2, _ => rfl
  | 3, _ => rfl
  | 4, _ => rfl
  | 5, _ => rfl
  | 6, _ => rfl
  | 7, _ => rfl
  | 8, _ => rfl
  | 9, _ => rfl
  | 10, _ => rfl
  | k + 11, h => exact absurd h (by omega)
theorem bc_4 : vwCl[4]? = some (RX5, TX5, 4) := rfl
set_option maxRecDepth 20000 in
theorem in_4 : ∀ w ∈ u_ws RX5 TX5 4, w ∈ b_Ws := by
  intro w hw
  obtain ⟨k, hk, rfl⟩ := List.mem_map.mp hw
  have hk := List.mem_range.mp hk
  match k, hk with
  | 0, _ => exact bw_2 (List.mem_of_getElem? (i := 26) rfl) rfl
  | 1, _ => exact bw_2 (List.mem_of_getElem? (i := 28) rfl) rfl
  | 2, _ => exact bw_2 (List.mem_of_getElem? (i := 30) rfl) rfl
  | 3, _ => exact bw_2 (List.mem_of_getElem? (i := 32) rfl) rfl
  | k + 4, h => exact absurd h (by omega)
theorem dv_4 : ∀ k, k < 4 → defaultValue (tyX5 k) = (if m_Y 4 k = 1 then .int 0 else if m_Y 4 k = 2 then .long 0 else .null) := by
  intro k hk
  match k, hk with
  | 0, _ => rfl
  | 1, _ => rfl
  | 2, _ => rfl
  | 3, _ => rfl
  | k + 4, h => exact absurd h (by omega)
theorem bc_5 : vwCl[5]? = some (RX6, TX6, 6) := rfl
set_option maxRecDepth 20000 in
theorem in_5 : ∀ w ∈ u_ws RX6 TX6 6, w ∈ b_Ws := by
  intro w hw
  obtain ⟨k, hk, rfl⟩ := List.mem_map.mp hw
  have hk := List.mem_range.mp hk
  match k, hk with
  | 0, _ => exact bw_1 (List.mem_of_getElem? (i := 85) rfl) rfl
  | 1, _ => exact bw_1 (List.mem_of_getElem? (i := 87) rfl) rfl
  | 2, _ => exact bw_1 (List.mem_of_getElem? (i := 89) rfl) rfl
  | 3, _ => exact bw_1 (List.mem_of_getElem? (i := 91) rfl) rfl
  | 4, _ => exact bw_1 (List.mem_of_getElem? (i := 93) rfl) rfl
  | 5, _ => exact bw_1 (List.mem_of_getElem? (i := 95) rfl) rfl
  | k + 6, h => exact absurd h (by omega)
theorem dv_5 : ∀ k, k < 6 → defaultValue (tyX6 k) = (if m_Y 5 k = 1 then .int 0 else if m_Y 5 k = 2 then .long 0 else .null) := by
  intro k hk
  match k, hk with
  | 0, _ => rfl
  | 1, _ => rfl
  | 2, _ => rfl
  | 3, _ => rfl
  | 4, _ => rfl
  | 5, _ => rfl
  | k + 6, h => exact absurd h (by omega)
theorem bc_6 : vwCl[6]? = some (RX8, TX8, 7) := rfl
set_option maxRecDepth 20000 in
theorem in_6 : ∀ w ∈ u_ws RX8 TX8 7, w ∈ b_Ws := by
  intro w hw
  obtain ⟨k, hk, rfl⟩ := List.mem_map.mp hw
  have hk := List.mem_range.mp hk
  match k, hk with
  | 0, _ => exact bw_1 (List.mem_of_getElem? (i := 206) rfl) rfl
  | 1, _ => exact bw_1 (List.mem_of_getElem? (i := 208) rfl) rfl
  | 2, _ => exact bw_1 (List.mem_of_getElem? (i := 210) rfl) rfl
  | 3, _ => exact bw_1 (List.mem_of_getElem? (i := 212) rfl) rfl
  | 4, _ => exact bw_1 (List.mem_of_getElem? (i := 214) rfl) rfl
  | 5, _ => exact bw_1 (List.mem_of_getElem? (i := 216) rfl) rfl
  | 6, _ => exact bw_1 (List.mem_of_getElem? (i := 218) rfl) rfl
  | k + 7, h => exact absurd h (by omega)
theorem dv_6 : ∀ k, k < 7 → defaultValue (tyX8 k) = (if m_Y 6 k = 1 then .int 0 else if m_Y 6 k = 2 then .long 0 else .null) := by
  intro k hk
  match k, hk with
  | 0, _ => rfl
  | 1, _ => rfl
  | 2, _ => rfl
  | 3, _ => rfl
  | 4, _ => rfl
  | 5, _ => rfl
  | 6, _ => rfl
  | k + 7, h => exact absurd h (by omega)
theorem bc_7 : vwCl[7]? = some (RX9, TX9, 6) := rfl
set_option maxRecDepth 20000 in
theorem in_7 : ∀ w ∈ u_ws RX9 TX9 6, w ∈ b_Ws := by
  intro w hw
  obtain ⟨k, hk, rfl⟩ := List.mem_map.mp hw
  have hk := List.mem_range.mp hk
  match k, hk with
  | 0, _ => exact bw_2 (List.mem_of_getElem? (i := 2) rfl) rfl
  | 1, _ => exact bw_2 (List.mem_of_getElem? (i := 4) rfl) rfl
  | 2, _ => exact bw_2 (List.mem_of_getElem? (i := 6) rfl) rfl
  | 3, _ => exact bw_2 (List.mem_of_getElem? (i := 8) rfl) rfl
  | 4, _ => exact bw_2 (List.mem_of_getElem? (i := 10) rfl) rfl
  | 5, _ => exact bw_2 (List.mem_of_getElem? (i := 12) rfl) rfl
  | k + 6, h => exact absurd h (by omega)
theorem dv_7 : ∀ k, k < 6 → defaultValue (tyX9 k) = (if m_Y 7 k = 1 then .int 0 else if m_Y 7 k = 2 then .long 0 else .null) := by
  intro k hk
  match k, hk with
  | 0, _ => rfl
  | 1, _ => rfl
  | 2, _ => rfl
  | 3, _ => rfl
  | 4, _ => rfl
  | 5, _ => rfl
  | k + 6, h => exact absurd h (by omega)
theorem bc_8 : vwCl[8]? = some (RX10, TX10, 11) := rfl
set_option maxRecDepth 20000 in
theorem in_8 : ∀ w ∈ u_ws RX10 TX10 11, w ∈ b_Ws := by
  intro w hw
  obtain ⟨k, hk, rfl⟩ := List.mem_map.mp hw
  have hk := List.mem_range.mp hk
  match k, hk with
  | 0, _ => exact bw_1 (List.mem_of_getElem? (i := 169) rfl) rfl
  | 1, _ => exact bw_1 (List.mem_of_getElem? (i := 171) rfl) rfl
  | 2, _ => exact bw_1 (List.mem_of_getElem? (i := 173) rfl) rfl
  | 3, _ => exact bw_1 (List.mem_of_getElem? (i := 175) rfl) rfl
  | 4, _ => exact bw_1 (List.mem_of_getElem? (i := 177) rfl) rfl
  | 5, _ => exact bw_1 (List.mem_of_getElem? (i := 179) rfl) rfl
  | 6, _ => exact bw_1 (List.mem_of_getElem? (i := 181) rfl) rfl
  | 7, _ => exact bw_1 (List.mem_of_getElem? (i := 183) rfl) rfl
  | 8, _ => exact bw_1 (List.mem_of_getElem? (i := 185) rfl) rfl
  | 9, _ => exact bw_1 (List.mem_of_getElem? (i := 187) rfl) rfl
  | 10, _ => exact bw_1 (List.mem_of_getElem? (i := 189) rfl) rfl
  | k + 11, h => exact absurd h (by omega)
theorem dv_8 : ∀ k, k < 11 → defaultValue (tyX10 k) = (if m_Y 8 k = 1 then .int 0 else if m_Y 8 k = 2 then .long 0 else .null) := by
  intro k hk
  match k, hk with
  | 0, _ => rfl
  | 1, _ => rfl
  | 2, _ => rfl
  | 3, _ => rfl
  | 4, _ => rfl
  | 5, _ => rfl
  | 6, _ => rfl
  | 7, _ => rfl
  | 8, _ => rfl
  | 9, _ => rfl
  | 10, _ => rfl
  | k + 11, h => exact absurd h (by omega)
theorem bc_9 : vwCl[9]? = some (RX11, TX11, 16) := rfl
set_option maxRecDepth 20000 in
theorem in_9 : ∀ w ∈ u_ws RX11 TX11 16, w ∈ b_Ws := by
  intro w hw
  obtain ⟨k, hk, rfl⟩ := List.mem_map.mp hw
  have hk := List.mem_range.mp hk
  match k, hk with
  | 0, _ => exact bw_2 (List.mem_of_getElem? (i := 142) rfl) rfl
  | 1, _ => exact bw_2 (List.mem_of_getElem? (i := 144) rfl) rfl
  | 2, _ => exact bw_2 (List.mem_of_getElem? (i := 146) rfl) rfl
  | 3, _ => exact bw_2 (List.mem_of_getElem? (i := 148) rfl) rfl
  | 4, _ => exact bw_2 (List.mem_of_getElem? (i := 150) rfl) rfl
  | 5, _ => exact bw_2 (List.mem_of_getElem? (i := 152) rfl) rfl
  | 6, _ => exact bw_2 (List.mem_of_getElem? (i := 154) rfl) rfl
  | 7, _ => exact bw_2 (List.mem_of_getElem? (i := 156) rfl) rfl
  | 8, _ => exact bw_2 (List.mem_of_getElem? (i := 158) rfl) rfl
  | 9, _ => exact bw_2 (List.mem_of_getElem? (i := 160) rfl) rfl
  | 10, _ => exact bw_2 (List.mem_of_getElem? (i := 162) rfl) rfl
  | 11, _ => exact bw_2 (List.mem_of_getElem? (i := 164) rfl) rfl
  | 12, _ => exact bw_2 (List.mem_of_getElem? (i := 166) rfl) rfl
  | 13, _ => exact bw_2 (List.mem_of_getElem? (i := 168) rfl) rfl
  | 14, _ => exact bw_2 (List.mem_of_getElem? (i := 170) rfl) rfl
  | 15, _ => exact bw_2 (List.mem_of_getElem? (i := 172) rfl) rfl
  | k + 16, h => exact absurd h (by omega)
theorem dv_9 : ∀ k, k < 16 → defaultValue (tyX11 k) = (if m_Y 9 k = 1 then .int 0 else if m_Y 9 k = 2 then .long 0 else .null) := by
  intro k hk
  match k, hk with
  | 0, _ => rfl
  | 1, _ => rfl
  | 2, _ => rfl
  | 3, _ => rfl
  | 4, _ => rfl
  | 5, _ => rfl
  | 6, _ => rfl
  | 7, _ => rfl
  | 8, _ => rfl
  | 9, _ => rfl
  | 10, _ => rfl
  | 11, _ => rfl
  | 12, _ => rfl
  | 13, _ => rfl
  | 14, _ => rfl
  | 15, _ => rfl
  | k + 16, h => exact absurd h (by omega)
theorem bc_10 : vwCl[10]? = some (RX12, TX12, 5) := rfl
set_option maxRecDepth 20000 in
theorem in_10 : ∀ w ∈ u_ws RX12 TX12 5, w ∈ b_Ws := by
  intro w hw
  obtain ⟨k, hk, rfl⟩ := List.mem_map.mp hw
  have hk := List.mem_range.mp hk
  match k, hk with
  | 0, _ => exact bw_2 (List.mem_of_getElem? (i := 180) rfl) rfl
  | 1, _ => exact bw_2 (List.mem_of_getElem? (i := 182) rfl) rfl
  | 2, _ => exact bw_2 (List.mem_of_getElem? (i := 184) rfl) rfl
  | 3, _ => exact bw_2 (List.mem_of_getElem? (i := 186) rfl) rfl
  | 4, _ => exact bw_2 (List.mem_of_getElem? (i := 188) rfl) rfl
  | k + 5, h => exact absurd h (by omega)
theorem dv_10 : ∀ k, k < 5 → defaultValue (tyX12 k) = (if m_Y 10 k = 1 then .int 0 else if m_Y 10 k = 2 then .long 0 else .null) := by
  intro k hk
  match k, hk with
  | 0, _ => rfl
  | 1, _ => rfl
  | 2, _ => rfl
  | 3, _ => rfl
  | 4, _ => rfl
  | k + 5, h => exact absurd h (by omega)
theorem bc_11 : vwCl[11]? = some (RX13, TX13, 72) := rfl
set_option maxRecDepth 20000 in
theorem in_11 : ∀ w ∈ u_ws RX13 TX13 72, w ∈ b_Ws := by
  intro w hw
  obtain ⟨k, hk, rfl⟩ := List.mem_map.mp hw
  have hk := List.mem_range.mp hk
  match k, hk with
  | 0, _ => exact bw_6 (List.mem_of_getElem? (i := 48) rfl) rfl
  | 1, _ => exact bw_6 (List.mem_of_getElem? (i := 50) rfl) rfl
  | 2, _ => exact bw_6 (List.mem_of_getElem? (i := 52) rfl) rfl
  | 3, _ => exact bw_6 (List.mem_of_getElem? (i := 54) rfl) rfl
  | 4, _ => exact bw_6 (List.mem_of_getElem? (i := 56) rfl) rfl
  | 5, _ => exact bw_6 (List.mem_of_getElem? (i := 58) rfl) rfl
  | 6, _ => exact bw_6 (List.mem_of_getElem? (i := 60) rfl) rfl
  | 7, _ => exact bw_6 (List.mem_of_getElem? (i := 62) rfl) rfl
  | 8, _ => exact bw_6 (List.mem_of_getElem? (i := 64) rfl) rfl
  | 9, _ => exact bw_6 (List.mem_of_getElem? (i := 66) rfl) rfl
  | 10, _ => exact bw_6 (List.mem_of_getElem? (i := 68) rfl) rfl
  | 11, _ => exact bw_6 (List.mem_of_getElem? (i := 70) rfl) rfl
  | 12, _ => exact bw_6 (List.mem_of_getElem? (i := 72) rfl) rfl
  | 13, _ => exact bw_6 (List.mem_of_getElem? (i := 74) rfl) rfl
  | 14, _ => exact bw_6 (List.mem_of_getElem? (i := 76) rfl) rfl
  | 15, _ => exact bw_6 (List.mem_of_getElem? (i := 78) rfl) rfl
  | 16, _ => exact bw_6 (List.mem_of_getElem? (i := 80) rfl) rfl
  | 17, _ => exact bw_6 (List.mem_of_getElem? (i := 82) rfl) rfl
  | 18, _ => exact bw_6 (List.mem_of_getElem? (i := 84) rfl) rfl
  | 19, _ => exact bw_6 (List.mem_of_getElem? (i := 86) rfl) rfl
  | 20, _ => exact bw_6 (List.mem_of_getElem? (i := 88) rfl) rfl
  | 21, _ => exact bw_6 (List.mem_of_getElem? (i := 90) rfl) rfl
  | 22, _ => exact bw_6 (List.mem_of_getElem? (i := 92) rfl) rfl
  | 23, _ => exact bw_6 (List.mem_of_getElem? (i := 94) rfl) rfl
  | 24, _ => exact bw_6 (List.mem_of_getElem? (i := 96) rfl) rfl
  | 25, _ => exact bw_6 (List.mem_of_getElem? (i := 98) rfl) rfl
  | 26, _ => exact bw_6 (List.mem_of_getElem? (i := 100) rfl) rfl
  | 27, _ => exact bw_6 (List.mem_of_getElem? (i := 102) rfl) rfl
  | 28, _ => exact bw_6 (List.mem_of_getElem? (i := 104) rfl) rfl
  | 29, _ => exact bw_6 (List.mem_of_getElem? (i := 106) rfl) rfl
  | 30, _ => exact bw_6 (List.mem_of_getElem? (i := 108) rfl) rfl
  | 31, _ => exact bw_6 (List.mem_of_getElem? (i := 110) rfl) rfl
  | 32, _ => exact bw_6 (List.mem_of_getElem? (i := 112) rfl) rfl
  | 33, _ => exact bw_6 (List.mem_of_getElem? (i := 114) rfl) rfl
  | 34, _ => exact bw_6 (List.mem_of_getElem? (i := 116) rfl) rfl
  | 35, _ => exact bw_6 (List.mem_of_getElem? (i := 118) rfl) rfl
  | 36, _ => exact bw_6 (List.mem_of_getElem? (i := 120) rfl) rfl
  | 37, _ => exact bw_6 (List.mem_of_getElem? (i := 122) rfl) rfl
  | 38, _ => exact bw_6 (List.mem_of_getElem? (i := 124) rfl) rfl
  | 39, _ => exact bw_6 (List.mem_of_getElem? (i := 126) rfl) rfl
  | 40, _ => exact bw_6 (List.mem_of_getElem? (i := 128) rfl) rfl
  | 41, _ => exact bw_6 (List.mem_of_getElem? (i := 130) rfl) rfl
  | 42, _ => exact bw_6 (List.mem_of_getElem? (i := 132) rfl) rfl
  | 43, _ => exact bw_6 (List.mem_of_getElem? (i := 134) rfl) rfl
  | 44, _ => exact bw_6 (List.mem_of_getElem? (i := 136) rfl) rfl
  | 45, _ => exact bw_6 (List.mem_of_getElem? (i := 138) rfl) rfl
  | 46, _ => exact bw_6 (List.mem_of_getElem? (i := 140) rfl) rfl
  | 47, _ => exact bw_6 (List.mem_of_getElem? (i := 142) rfl) rfl
  | 48, _ => exact bw_6 (List.mem_of_getElem? (i := 144) rfl) rfl
  | 49, _ => exact bw_6 (List.mem_of_getElem? (i := 146) rfl) rfl
  | 50, _ => exact bw_6 (List.mem_of_getElem? (i := 148) rfl) rfl
  | 51, _ => exact bw_6 (List.mem_of_getElem? (i := 150) rfl) rfl
  | 52, _ => exact bw_6 (List.mem_of_getElem? (i := 152) rfl) rfl
  | 53, _ => exact bw_6 (List.mem_of_getElem? (i := 154) rfl) rfl
  | 54, _ => exact bw_6 (List.mem_of_getElem? (i := 156) rfl) rfl
  | 55, _ => exact bw_6 (List.mem_of_getElem? (i := 158) rfl) rfl
  | 56, _ => exact bw_6 (List.mem_of_getElem? (i := 160) rfl) rfl
  | 57, _ => exact bw_6 (List.mem_of_getElem? (i := 162) rfl) rfl
  | 58, _ => exact bw_6 (List.mem_of_getElem? (i := 164) rfl) rfl
  | 59, _ => exact bw_6 (List.mem_of_getElem? (i := 166) rfl) rfl
  | 60, _ => exact bw_6 (List.mem_of_getElem? (i := 168) rfl) rfl
  | 61, _ => exact bw_6 (List.mem_of_getElem? (i := 170) rfl) rfl
  | 62, _ => exact bw_6 (List.mem_of_getElem? (i := 172) rfl) rfl
  | 63, _ => exact bw_6 (List.mem_of_getElem? (i := 174) rfl) rfl
  | 64, _ => exact bw_6 (List.mem_of_getElem? (i := 176) rfl) rfl
  | 65, _ => exact bw_6 (List.mem_of_getElem? (i := 178) rfl) rfl
  | 66, _ => exact bw_6 (List.mem_of_getElem? (i := 180) rfl) rfl
  | 67, _ => exact bw_6 (List.mem_of_getElem? (i := 182) rfl) rfl
  | 68, _ => exact bw_6 (List.mem_of_getElem? (i := 184) rfl) rfl
  | 69, _ => exact bw_6 (List.mem_of_getElem? (i := 186) rfl) rfl
  | 70, _ => exact bw_6 (List.mem_of_getElem? (i := 188) rfl) rfl
  | 71, _ => exact bw_6 (List.mem_of_getElem? (i := 190) rfl) rfl
  | k + 72, h => exact absurd h (by omega)
theorem dv_11 : ∀ k, k < 72 → defaultValue (tyX13 k) = (if m_Y 11 k = 1 then .int 0 else if m_Y 11 k = 2 then .long 0 else .null) := by
  intro k hk
  match k, hk with
  | 0, _ => rfl
  | 1, _ => rfl
  | 2, _ => rfl
  | 3, _ => rfl
  | 4, _ => rfl
  | 5, _ => rfl
  | 6, _ => rfl
  | 7, _ => rfl
  | 8, _ => rfl
  | 9, _ => rfl
  | 10, _ => rfl
  | 11, _ => rfl
  | 12, _ => rfl
  | 13, _ => rfl
  | 14, _ => rfl
  | 15, _ => rfl
  | 16, _ => rfl
  | 17, _ => rfl
  | 18, _ => rfl
  | 19, _ => rfl
  | 20, _ => rfl
  | 21, _ => rfl
  | 22, _ => rfl
  | 23, _ => rfl
  | 24, _ => rfl
  | 25, _ => rfl
  | 26, _ => rfl
  | 27, _ => rfl
  | 28, _ => rfl
  | 29, _ => rfl
  | 30, _ => rfl
  | 31, _ => rfl
  | 32, _ => rfl
  | 33, _ => rfl
  | 34, _ => rfl
  | 35, _ => rfl
  | 36, _ => rfl
  | 37, _ => rfl
  | 38, _ => rfl
  | 39, _ => rfl
  | 40, _ => rfl
  | 41, _ => rfl
  | 42, _ => rfl
  | 43, _ => rfl
  | 44, _ => rfl
  | 45, _ => rfl
  | 46, _ => rfl
  | 47, _ => rfl
  | 48, _ => rfl
  | 49, _ => rfl
  | 50, _ => rfl
  | 51, _ => rfl
  | 52, _ => rfl
  | 53, _ => rfl
  | 54, _ => rfl
  | 55, _ => rfl
  | 56, _ => rfl
  | 57, _ => rfl
  | 58, _ => rfl
  | 59, _ => rfl
  | 60, _ => rfl
  | 61, _ => rfl
  | 62, _ => rfl
  | 63, _ => rfl
  | 64, _ => rfl
  | 65, _ => rfl
  | 66, _ => rfl
  | 67, _ => rfl
  | 68, _ => rfl
  | 69, _ => rfl
  | 70, _ => rfl
  | 71, _ => rfl
  | k + 72, h => exact absurd h (by omega)

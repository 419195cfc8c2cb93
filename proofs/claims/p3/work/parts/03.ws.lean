/-- all good words of the tables -/
def b_Ws : List Cond := lw_tbl.filter goodWord
theorem b_Ws_in {w : Cond} (h : w ∈ b_Ws) : w ∈ lw_tbl := (List.mem_filter.mp h).1
theorem bw_t {w : Cond} (h : w ∈ tables_1) (g : goodWord w = true) : w ∈ b_Ws := List.mem_filter.mpr ⟨List.mem_append_right _ h, g⟩
theorem bw_1 {w : Cond} (h : w ∈ tables_1_1) (g : goodWord w = true) : w ∈ b_Ws := bw_t (List.mem_append_left _ h) g
theorem bw_2 {w : Cond} (h : w ∈ tables_1_2) (g : goodWord w = true) : w ∈ b_Ws := bw_t (List.mem_append_right _ (List.mem_append_left _ h)) g
theorem bw_3 {w : Cond} (h : w ∈ tables_1_3) (g : goodWord w = true) : w ∈ b_Ws := bw_t (List.mem_append_right _ (List.mem_append_right _ (List.mem_append_left _ h))) g
theorem bw_4 {w : Cond} (h : w ∈ tables_1_4) (g : goodWord w = true) : w ∈ b_Ws := bw_t (List.mem_append_right _ (List.mem_append_right _ (List.mem_append_right _ (List.mem_append_left _ h)))) g
theorem bw_5 {w : Cond} (h : w ∈ tables_1_5) (g : goodWord w = true) : w ∈ b_Ws := bw_t (List.mem_append_right _ (List.mem_append_right _ (List.mem_append_right _ (List.mem_append_right _ (List.mem_append_left _ h))))) g
theorem bw_6 {w : Cond} (h : w ∈ tables_1_6) (g : goodWord w = true) : w ∈ b_Ws := bw_t (List.mem_append_right _ (List.mem_append_right _ (List.mem_append_right _ (List.mem_append_right _ (List.mem_append_right _ (List.mem_append_left _ h)))))) g
theorem bw_7 {w : Cond} (h : w ∈ tables_1_7) (g : goodWord w = true) : w ∈ b_Ws := bw_t (List.mem_append_right _ (List.mem_append_right _ (List.mem_append_right _ (List.mem_append_right _ (List.mem_append_right _ (List.mem_append_right _ (List.mem_append_left _ h))))))) g
theorem bw_8 {w : Cond} (h : w ∈ tables_1_8) (g : goodWord w = true) : w ∈ b_Ws := bw_t (List.mem_append_right _ (List.mem_append_right _ (List.mem_append_right _ (List.mem_append_right _ (List.mem_append_right _ (List.mem_append_right _ (List.mem_append_right _ (h)))))))) g
theorem bw_p {q : MethodName × Nat} (h : q ∈ lw_privs) (g : goodWord (Cond.selects q.1.cls q.1 q.1) = true) : Cond.selects q.1.cls q.1 q.1 ∈ b_Ws := List.mem_filter.mpr ⟨List.mem_append_left _ (List.mem_map.mpr ⟨q, h, rfl⟩), g⟩

def WT : List Cond := lw_tbl.filter goodWord
theorem wt_0 {w : Cond} (h : w ∈ k2_sels lw_privs) (hg : goodWord w = true) : w ∈ WT := List.mem_filter.mpr ⟨List.mem_append_left _ h, hg⟩
theorem wt_t {w : Cond} (h : w ∈ tables_1) (hg : goodWord w = true) : w ∈ WT := List.mem_filter.mpr ⟨List.mem_append_right _ h, hg⟩
theorem wt_1 {w : Cond} (i : Nat) (hi : tables_1_1[i]? = some w) (hg : goodWord w = true) : w ∈ WT := wt_t (by have h := List.mem_of_getElem? hi; exact (List.mem_append_left _ h)) hg
theorem wt_2 {w : Cond} (i : Nat) (hi : tables_1_2[i]? = some w) (hg : goodWord w = true) : w ∈ WT := wt_t (by have h := List.mem_of_getElem? hi; exact (List.mem_append_right _ (List.mem_append_left _ h))) hg
theorem wt_3 {w : Cond} (i : Nat) (hi : tables_1_3[i]? = some w) (hg : goodWord w = true) : w ∈ WT := wt_t (by have h := List.mem_of_getElem? hi; exact (List.mem_append_right _ (List.mem_append_right _ (List.mem_append_left _ h)))) hg
theorem wt_4 {w : Cond} (i : Nat) (hi : tables_1_4[i]? = some w) (hg : goodWord w = true) : w ∈ WT := wt_t (by have h := List.mem_of_getElem? hi; exact (List.mem_append_right _ (List.mem_append_right _ (List.mem_append_right _ (List.mem_append_left _ h))))) hg
theorem wt_5 {w : Cond} (i : Nat) (hi : tables_1_5[i]? = some w) (hg : goodWord w = true) : w ∈ WT := wt_t (by have h := List.mem_of_getElem? hi; exact (List.mem_append_right _ (List.mem_append_right _ (List.mem_append_right _ (List.mem_append_right _ (List.mem_append_left _ h)))))) hg
theorem wt_6 {w : Cond} (i : Nat) (hi : tables_1_6[i]? = some w) (hg : goodWord w = true) : w ∈ WT := wt_t (by have h := List.mem_of_getElem? hi; exact (List.mem_append_right _ (List.mem_append_right _ (List.mem_append_right _ (List.mem_append_right _ (List.mem_append_right _ h)))))) hg

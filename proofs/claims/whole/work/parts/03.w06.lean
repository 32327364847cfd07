set_option maxRecDepth 20000 in
theorem inX1_eq : u_ws RX1 TX1 2 = [.laysFinal RX1 "StatuteBook$Clauses" "cells" "[I", .lays RX1 "StatuteBook$Clauses" "size" "I"] := rfl
set_option maxRecDepth 20000 in
theorem inX1 : ∀ w ∈ u_ws RX1 TX1 2, w ∈ WT := by
  rw [inX1_eq]
  exact List.forall_mem_cons.mpr ⟨tw_38, List.forall_mem_cons.mpr ⟨tw_40, fun _ h => absurd h List.not_mem_nil⟩⟩
set_option maxRecDepth 20000 in
theorem inX2_eq : u_ws RX2 TX2 1 = [.lays RX2 "StatuteBook$Draws" "z" "I"] := rfl
set_option maxRecDepth 20000 in
theorem inX2 : ∀ w ∈ u_ws RX2 TX2 1, w ∈ WT := by
  rw [inX2_eq]
  exact List.forall_mem_cons.mpr ⟨tw_68, fun _ h => absurd h List.not_mem_nil⟩
set_option maxRecDepth 20000 in
theorem inX3_eq : u_ws RX3 TX3 2 = [.laysFinal RX3 "StatuteBook$Line" "values" "[I", .lays RX3 "StatuteBook$Line" "size" "I"] := rfl
set_option maxRecDepth 20000 in
theorem inX3 : ∀ w ∈ u_ws RX3 TX3 2, w ∈ WT := by
  rw [inX3_eq]
  exact List.forall_mem_cons.mpr ⟨tw_130, List.forall_mem_cons.mpr ⟨tw_132, fun _ h => absurd h List.not_mem_nil⟩⟩
set_option maxRecDepth 20000 in
theorem inX4_eq : u_ws RX4 TX4 4 = [.laysFinal RX4 "StatuteBook$Reader" "clauses" "LStatuteBook$Clauses;", .laysFinal RX4 "StatuteBook$Reader" "tokens" "LStatuteBook$Tokens;", .lays RX4 "StatuteBook$Reader" "looked" "I", .lays RX4 "StatuteBook$Reader" "c" "I"] := rfl
set_option maxRecDepth 20000 in
theorem inX4 : ∀ w ∈ u_ws RX4 TX4 4, w ∈ WT := by
  rw [inX4_eq]
  exact List.forall_mem_cons.mpr ⟨tw_113, List.forall_mem_cons.mpr ⟨tw_115, List.forall_mem_cons.mpr ⟨tw_117, List.forall_mem_cons.mpr ⟨tw_119, fun _ h => absurd h List.not_mem_nil⟩⟩⟩⟩
set_option maxRecDepth 20000 in
theorem inX5_eq : u_ws RX5 TX5 3 = [.laysFinal RX5 "StatuteBook$Register" "cells" "[I", .laysFinal RX5 "StatuteBook$Register" "times" "[I", .lays RX5 "StatuteBook$Register" "size" "I"] := rfl
set_option maxRecDepth 20000 in
theorem inX5 : ∀ w ∈ u_ws RX5 TX5 3, w ∈ WT := by
  rw [inX5_eq]
  exact List.forall_mem_cons.mpr ⟨tw_53, List.forall_mem_cons.mpr ⟨tw_55, List.forall_mem_cons.mpr ⟨tw_57, fun _ h => absurd h List.not_mem_nil⟩⟩⟩
set_option maxRecDepth 20000 in
theorem inX6_eq : u_ws RX6 TX6 3 = [.laysFinal RX6 "StatuteBook$Sheet" "cells" "[I", .lays RX6 "StatuteBook$Sheet" "sort" "I", .lays RX6 "StatuteBook$Sheet" "size" "I"] := rfl
set_option maxRecDepth 20000 in
theorem inX6 : ∀ w ∈ u_ws RX6 TX6 3, w ∈ WT := by
  rw [inX6_eq]
  exact List.forall_mem_cons.mpr ⟨tw_145, List.forall_mem_cons.mpr ⟨tw_147, List.forall_mem_cons.mpr ⟨tw_149, fun _ h => absurd h List.not_mem_nil⟩⟩⟩
set_option maxRecDepth 20000 in
theorem inX7_eq : u_ws RX7 TX7 2 = [.laysFinal RX7 "StatuteBook$Tape" "bytes" "[I", .lays RX7 "StatuteBook$Tape" "size" "I"] := rfl
set_option maxRecDepth 20000 in
theorem inX7 : ∀ w ∈ u_ws RX7 TX7 2, w ∈ WT := by
  rw [inX7_eq]
  exact List.forall_mem_cons.mpr ⟨tw_79, List.forall_mem_cons.mpr ⟨tw_81, fun _ h => absurd h List.not_mem_nil⟩⟩
set_option maxRecDepth 20000 in
theorem inX8_eq : u_ws RX8 TX8 4 = [.laysFinal RX8 "StatuteBook$Tokens" "kinds" "[I", .laysFinal RX8 "StatuteBook$Tokens" "starts" "[I", .laysFinal RX8 "StatuteBook$Tokens" "values" "[I", .lays RX8 "StatuteBook$Tokens" "size" "I"] := rfl
set_option maxRecDepth 20000 in
theorem inX8 : ∀ w ∈ u_ws RX8 TX8 4, w ∈ WT := by
  rw [inX8_eq]
  exact List.forall_mem_cons.mpr ⟨tw_100, List.forall_mem_cons.mpr ⟨tw_102, List.forall_mem_cons.mpr ⟨tw_104, List.forall_mem_cons.mpr ⟨tw_106, fun _ h => absurd h List.not_mem_nil⟩⟩⟩⟩
set_option maxRecDepth 20000 in
theorem inX10_eq : u_ws RX10 TX10 12 = [.laysFinal RX10 "StatuteBook" "now" "LStatuteBook$Clauses;", .laysFinal RX10 "StatuteBook" "marked" "LStatuteBook$Clauses;", .laysFinal RX10 "StatuteBook" "register" "LStatuteBook$Register;", .laysFinal RX10 "StatuteBook" "draws" "LStatuteBook$Draws;", .laysFinal RX10 "StatuteBook" "tape" "LStatuteBook$Tape;", .laysFinal RX10 "StatuteBook" "reader" "LStatuteBook$Reader;", .laysFinal RX10 "StatuteBook" "line" "LStatuteBook$Line;", .laysFinal RX10 "StatuteBook" "sheets" "[LStatuteBook$Sheet;", .lays RX10 "StatuteBook" "imaged" "Z", .laysFinal RX10 "StatuteBook" "imageClauses" "LStatuteBook$Clauses;", .laysFinal RX10 "StatuteBook" "imageRegister" "LStatuteBook$Register;", .lays RX10 "StatuteBook" "imageZ" "I"] := rfl
set_option maxRecDepth 20000 in
theorem inX10 : ∀ w ∈ u_ws RX10 TX10 12, w ∈ WT := by
  rw [inX10_eq]
  exact List.forall_mem_cons.mpr ⟨tw_164, List.forall_mem_cons.mpr ⟨tw_166, List.forall_mem_cons.mpr ⟨tw_168, List.forall_mem_cons.mpr ⟨tw_170, List.forall_mem_cons.mpr ⟨tw_172, List.forall_mem_cons.mpr ⟨tw_174, List.forall_mem_cons.mpr ⟨tw_176, List.forall_mem_cons.mpr ⟨tw_178, List.forall_mem_cons.mpr ⟨tw_180, List.forall_mem_cons.mpr ⟨tw_182, List.forall_mem_cons.mpr ⟨tw_184, List.forall_mem_cons.mpr ⟨tw_186, fun _ h => absurd h List.not_mem_nil⟩⟩⟩⟩⟩⟩⟩⟩⟩⟩⟩⟩
set_option maxRecDepth 20000 in
theorem inX11_eq : u_ws RX11 TX11 27 = [.laysFinal RX11 "StatuteBookModel" "now" "[I", .laysFinal RX11 "StatuteBookModel" "marked" "[I", .laysFinal RX11 "StatuteBookModel" "kept" "[I", .lays RX11 "StatuteBookModel" "many" "I", .lays RX11 "StatuteBookModel" "markedMany" "I", .lays RX11 "StatuteBookModel" "z" "I", .lays RX11 "StatuteBookModel" "holding" "I", .lays RX11 "StatuteBookModel" "standing" "I", .laysFinal RX11 "StatuteBookModel" "files" "[I", .laysFinal RX11 "StatuteBookModel" "often" "[I", .lays RX11 "StatuteBookModel" "fileMany" "I", .laysFinal RX11 "StatuteBookModel" "tape" "[I", .lays RX11 "StatuteBookModel" "taped" "I", .lays RX11 "StatuteBookModel" "from" "I", .lays RX11 "StatuteBookModel" "to" "I", .lays RX11 "StatuteBookModel" "token" "I", .lays RX11 "StatuteBookModel" "worth" "I", .laysFinal RX11 "StatuteBookModel" "traits" "[Ljava/lang/String;", .laysFinal RX11 "StatuteBookModel" "sort" "[I", .laysFinal RX11 "StatuteBookModel" "size" "[I", .laysFinal RX11 "StatuteBookModel" "items" "[I", .laysFinal RX11 "StatuteBookModel" "keptFiles" "[I", .laysFinal RX11 "StatuteBookModel" "keptOften" "[I", .lays RX11 "StatuteBookModel" "keptMany" "I", .lays RX11 "StatuteBookModel" "keptFileMany" "I", .lays RX11 "StatuteBookModel" "keptZ" "I", .lays RX11 "StatuteBookModel" "hasImage" "Z"] := rfl
set_option maxRecDepth 20000 in
theorem inX11 : ∀ w ∈ u_ws RX11 TX11 27, w ∈ WT := by
  rw [inX11_eq]
  exact List.forall_mem_cons.mpr ⟨tw_912, List.forall_mem_cons.mpr ⟨tw_914, List.forall_mem_cons.mpr ⟨tw_916, List.forall_mem_cons.mpr ⟨tw_918, List.forall_mem_cons.mpr ⟨tw_920, List.forall_mem_cons.mpr ⟨tw_922, List.forall_mem_cons.mpr ⟨tw_924, List.forall_mem_cons.mpr ⟨tw_926, List.forall_mem_cons.mpr ⟨tw_928, List.forall_mem_cons.mpr ⟨tw_930, List.forall_mem_cons.mpr ⟨tw_932, List.forall_mem_cons.mpr ⟨tw_934, List.forall_mem_cons.mpr ⟨tw_936, List.forall_mem_cons.mpr ⟨tw_938, List.forall_mem_cons.mpr ⟨tw_940, List.forall_mem_cons.mpr ⟨tw_942, List.forall_mem_cons.mpr ⟨tw_944, List.forall_mem_cons.mpr ⟨tw_946, List.forall_mem_cons.mpr ⟨tw_948, List.forall_mem_cons.mpr ⟨tw_950, List.forall_mem_cons.mpr ⟨tw_952, List.forall_mem_cons.mpr ⟨tw_954, List.forall_mem_cons.mpr ⟨tw_956, List.forall_mem_cons.mpr ⟨tw_958, List.forall_mem_cons.mpr ⟨tw_960, List.forall_mem_cons.mpr ⟨tw_962, List.forall_mem_cons.mpr ⟨tw_964, fun _ h => absurd h List.not_mem_nil⟩⟩⟩⟩⟩⟩⟩⟩⟩⟩⟩⟩⟩⟩⟩⟩⟩⟩⟩⟩⟩⟩⟩⟩⟩⟩⟩

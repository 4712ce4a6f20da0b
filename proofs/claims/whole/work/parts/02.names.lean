def RP : String := "PostIndex$Post"
def TP : u_T := fun k => match k with
  | 0 => ("PostIndex$Post", "text", "LPostIndex$Text;", true)
  | 1 => ("PostIndex$Post", "author", "I", false)
  | 2 => ("PostIndex$Post", "time", "I", false)
  | _ => ("PostIndex$Post", "erased", "Z", false)
def tyP : Nat → FieldType := fun k => match k with
  | 0 => .object "PostIndex$Text"
  | 1 => .int
  | 2 => .int
  | _ => .boolean
theorem nmP : ∀ a, a < 4 → ∀ b, b < 4 → a ≠ b → (TP a).2.1 ≠ (TP b).2.1 := by decide +kernel
theorem tyP_ok : ∀ k, k < 4 → parseFieldDescriptor (TP k).2.2.1 = some (tyP k) := by decide +kernel
def RQ : String := "PostIndex$Query"
def TQ : u_T := fun k => match k with
  | 0 => ("PostIndex$Query", "kinds", "[I", true)
  | 1 => ("PostIndex$Query", "numbers", "[I", true)
  | 2 => ("PostIndex$Query", "wordEnds", "[I", true)
  | 3 => ("PostIndex$Query", "stepCount", "I", false)
  | 4 => ("PostIndex$Query", "words", "[LPostIndex$Text;", true)
  | _ => ("PostIndex$Query", "wordCount", "I", false)
def tyQ : Nat → FieldType := fun k => match k with
  | 0 => .array .int
  | 1 => .array .int
  | 2 => .array .int
  | 3 => .int
  | 4 => .array (.object "PostIndex$Text")
  | _ => .int
theorem nmQ : ∀ a, a < 6 → ∀ b, b < 6 → a ≠ b → (TQ a).2.1 ≠ (TQ b).2.1 := by decide +kernel
theorem tyQ_ok : ∀ k, k < 6 → parseFieldDescriptor (TQ k).2.2.1 = some (tyQ k) := by decide +kernel
def RR : String := "PostIndex$QueryReader"
def TR : u_T := fun k => match k with
  | 0 => ("PostIndex$QueryReader", "source", "LPostIndex$Text;", true)
  | 1 => ("PostIndex$QueryReader", "query", "LPostIndex$Query;", false)
  | _ => ("PostIndex$QueryReader", "at", "I", false)
def tyR : Nat → FieldType := fun k => match k with
  | 0 => .object "PostIndex$Text"
  | 1 => .object "PostIndex$Query"
  | _ => .int
theorem nmR : ∀ a, a < 3 → ∀ b, b < 3 → a ≠ b → (TR a).2.1 ≠ (TR b).2.1 := by decide +kernel
theorem tyR_ok : ∀ k, k < 3 → parseFieldDescriptor (TR k).2.2.1 = some (tyR k) := by decide +kernel
def RH : String := "PostIndex$Search"
def TH : u_T := fun k => match k with
  | 0 => ("PostIndex$Search", "query", "LPostIndex$Query;", false)
  | 1 => ("PostIndex$Search", "bound", "I", false)
  | _ => ("PostIndex$Search", "open", "Z", false)
def tyH : Nat → FieldType := fun k => match k with
  | 0 => .object "PostIndex$Query"
  | 1 => .int
  | _ => .boolean
theorem nmH : ∀ a, a < 3 → ∀ b, b < 3 → a ≠ b → (TH a).2.1 ≠ (TH b).2.1 := by decide +kernel
theorem tyH_ok : ∀ k, k < 3 → parseFieldDescriptor (TH k).2.2.1 = some (tyH k) := by decide +kernel
def RS : String := "PostIndex$Segment"
def TS : u_T := fun k => match k with
  | 0 => ("PostIndex$Segment", "termTexts", "[LPostIndex$Text;", true)
  | 1 => ("PostIndex$Segment", "termPostings", "[I", true)
  | 2 => ("PostIndex$Segment", "termCount", "I", false)
  | 3 => ("PostIndex$Segment", "rewritten", "I", false)
  | _ => ("PostIndex$Segment", "packed", "Z", false)
def tyS : Nat → FieldType := fun k => match k with
  | 0 => .array (.object "PostIndex$Text")
  | 1 => .array .int
  | 2 => .int
  | 3 => .int
  | _ => .boolean
theorem nmS : ∀ a, a < 5 → ∀ b, b < 5 → a ≠ b → (TS a).2.1 ≠ (TS b).2.1 := by decide +kernel
theorem tyS_ok : ∀ k, k < 5 → parseFieldDescriptor (TS k).2.2.1 = some (tyS k) := by decide +kernel
def RT : String := "PostIndex$Text"
def TT : u_T := fun k => match k with
  | 0 => ("PostIndex$Text", "chars", "[C", true)
  | _ => ("PostIndex$Text", "count", "I", false)
def tyT : Nat → FieldType := fun k => match k with
  | 0 => .array .char
  | _ => .int
theorem nmT : ∀ a, a < 2 → ∀ b, b < 2 → a ≠ b → (TT a).2.1 ≠ (TT b).2.1 := by decide +kernel
theorem tyT_ok : ∀ k, k < 2 → parseFieldDescriptor (TT k).2.2.1 = some (tyT k) := by decide +kernel
def RX : String := "PostIndex"
def TX : u_T := fun k => match k with
  | 0 => ("PostIndex", "draft", "LPostIndex$Text;", true)
  | 1 => ("PostIndex", "posts", "[LPostIndex$Post;", true)
  | 2 => ("PostIndex", "segments", "[LPostIndex$Segment;", true)
  | 3 => ("PostIndex", "searches", "[LPostIndex$Search;", true)
  | 4 => ("PostIndex", "reader", "LPostIndex$QueryReader;", true)
  | 5 => ("PostIndex", "postsMade", "I", false)
  | 6 => ("PostIndex", "postsPublished", "I", false)
  | 7 => ("PostIndex", "segmentsBegun", "I", false)
  | 8 => ("PostIndex", "searchesBegun", "I", false)
  | 9 => ("PostIndex", "token", "LPostIndex$Text;", true)
  | 10 => ("PostIndex", "writerAt", "I", false)
  | _ => ("PostIndex", "writerTokens", "I", false)
def tyX : Nat → FieldType := fun k => match k with
  | 0 => .object "PostIndex$Text"
  | 1 => .array (.object "PostIndex$Post")
  | 2 => .array (.object "PostIndex$Segment")
  | 3 => .array (.object "PostIndex$Search")
  | 4 => .object "PostIndex$QueryReader"
  | 5 => .int
  | 6 => .int
  | 7 => .int
  | 8 => .int
  | 9 => .object "PostIndex$Text"
  | 10 => .int
  | _ => .int
theorem nmX : ∀ a, a < 12 → ∀ b, b < 12 → a ≠ b → (TX a).2.1 ≠ (TX b).2.1 := by decide +kernel
theorem tyX_ok : ∀ k, k < 12 → parseFieldDescriptor (TX k).2.2.1 = some (tyX k) := by decide +kernel
def RM : String := "PostIndexModel"
def TM : u_T := fun k => match k with
  | 0 => ("PostIndexModel", "draftLength", "I", false)
  | 1 => ("PostIndexModel", "draft", "[I", true)
  | 2 => ("PostIndexModel", "made", "I", false)
  | 3 => ("PostIndexModel", "published", "I", false)
  | 4 => ("PostIndexModel", "done", "I", false)
  | 5 => ("PostIndexModel", "author", "[I", true)
  | 6 => ("PostIndexModel", "time", "[I", true)
  | 7 => ("PostIndexModel", "erased", "[Z", true)
  | 8 => ("PostIndexModel", "lengths", "[I", true)
  | 9 => ("PostIndexModel", "text", "[I", true)
  | 10 => ("PostIndexModel", "tokens", "[I", true)
  | 11 => ("PostIndexModel", "from", "[I", true)
  | 12 => ("PostIndexModel", "to", "[I", true)
  | 13 => ("PostIndexModel", "rewritten", "[I", true)
  | 14 => ("PostIndexModel", "packed", "[Z", true)
  | 15 => ("PostIndexModel", "searches", "I", false)
  | 16 => ("PostIndexModel", "taken", "[Z", true)
  | 17 => ("PostIndexModel", "bound", "[I", true)
  | 18 => ("PostIndexModel", "queryLength", "[I", true)
  | 19 => ("PostIndexModel", "query", "[I", true)
  | 20 => ("PostIndexModel", "piece", "I", false)
  | 21 => ("PostIndexModel", "pieceFrom", "I", false)
  | 22 => ("PostIndexModel", "pieceTo", "I", false)
  | 23 => ("PostIndexModel", "depth", "I", false)
  | 24 => ("PostIndexModel", "any", "[Z", true)
  | 25 => ("PostIndexModel", "all", "[Z", true)
  | 26 => ("PostIndexModel", "parts", "[I", true)
  | 27 => ("PostIndexModel", "minus", "[I", true)
  | 28 => ("PostIndexModel", "words", "I", false)
  | 29 => ("PostIndexModel", "wordFrom", "[I", true)
  | _ => ("PostIndexModel", "wordTo", "[I", true)
def tyM : Nat → FieldType := fun k => match k with
  | 0 => .int
  | 1 => .array .int
  | 2 => .int
  | 3 => .int
  | 4 => .int
  | 5 => .array .int
  | 6 => .array .int
  | 7 => .array .boolean
  | 8 => .array .int
  | 9 => .array .int
  | 10 => .array .int
  | 11 => .array .int
  | 12 => .array .int
  | 13 => .array .int
  | 14 => .array .boolean
  | 15 => .int
  | 16 => .array .boolean
  | 17 => .array .int
  | 18 => .array .int
  | 19 => .array .int
  | 20 => .int
  | 21 => .int
  | 22 => .int
  | 23 => .int
  | 24 => .array .boolean
  | 25 => .array .boolean
  | 26 => .array .int
  | 27 => .array .int
  | 28 => .int
  | 29 => .array .int
  | _ => .array .int
theorem nmM : ∀ a, a < 31 → ∀ b, b < 31 → a ≠ b → (TM a).2.1 ≠ (TM b).2.1 := by decide +kernel
theorem tyM_ok : ∀ k, k < 31 → parseFieldDescriptor (TM k).2.2.1 = some (tyM k) := by decide +kernel
abbrev vwCl : List vw_C := [(RP, TP, 4), (RQ, TQ, 6), (RR, TR, 3), (RH, TH, 3), (RS, TS, 5), (RT, TT, 2), (RX, TX, 12), (RM, TM, 31)]
def zTy : List FieldType := [.int, .char, .boolean, .object "PostIndex$Text", .object "PostIndex$Post", .object "PostIndex$Segment", .object "PostIndex$Search"]
def zAll : List Cond := lw_tbl.filter goodWord
theorem zA1 {i : Nat} {w : Cond} (h : tables_1_1[i]? = some w) (g : goodWord w = true) : w ∈ zAll := List.mem_filter.mpr ⟨List.mem_append_right _ (List.mem_append_left _ (List.mem_of_getElem? h)), g⟩
theorem zA2 {i : Nat} {w : Cond} (h : tables_1_2[i]? = some w) (g : goodWord w = true) : w ∈ zAll := List.mem_filter.mpr ⟨List.mem_append_right _ (List.mem_append_right _ (List.mem_append_left _ (List.mem_of_getElem? h))), g⟩
theorem zA3 {i : Nat} {w : Cond} (h : tables_1_3[i]? = some w) (g : goodWord w = true) : w ∈ zAll := List.mem_filter.mpr ⟨List.mem_append_right _ (List.mem_append_right _ (List.mem_append_right _ (List.mem_append_left _ (List.mem_of_getElem? h)))), g⟩
theorem zA4 {i : Nat} {w : Cond} (h : tables_1_4[i]? = some w) (g : goodWord w = true) : w ∈ zAll := List.mem_filter.mpr ⟨List.mem_append_right _ (List.mem_append_right _ (List.mem_append_right _ (List.mem_append_right _ (List.mem_of_getElem? h)))), g⟩
theorem zA0 {i : Nat} {q : MethodName × Nat} (h : lw_privs[i]? = some q) (g : goodWord (Cond.selects q.1.cls q.1 q.1) = true) : Cond.selects q.1.cls q.1 q.1 ∈ zAll := List.mem_filter.mpr ⟨List.mem_append_left _ (List.mem_map.mpr ⟨q, List.mem_of_getElem? h, rfl⟩), g⟩
theorem zA_good : ∀ w ∈ zAll, (w.onTables && w.keeps) = true ∨ ∃ ty, w = .arrayClass ty := fun w h => good_of_word (List.mem_filter.mp h).2
theorem zA_tbl : ∀ w ∈ zAll, w ∈ lw_tbl := fun w h => (List.mem_filter.mp h).1
theorem inP : ∀ w ∈ u_ws RP TP 4, w ∈ zAll := by
  intro w hw
  obtain ⟨k, hk, rfl⟩ := List.mem_map.mp hw
  have hk := List.mem_range.mp hk
  match k, hk with
  | 0, _ => exact (zA1 (i := 101) rfl rfl)
  | 1, _ => exact (zA1 (i := 103) rfl rfl)
  | 2, _ => exact (zA1 (i := 105) rfl rfl)
  | 3, _ => exact (zA1 (i := 107) rfl rfl)
  | k + 4, hk => exact absurd hk (by omega)
theorem inQ : ∀ w ∈ u_ws RQ TQ 6, w ∈ zAll := by
  intro w hw
  obtain ⟨k, hk, rfl⟩ := List.mem_map.mp hw
  have hk := List.mem_range.mp hk
  match k, hk with
  | 0, _ => exact (zA1 (i := 61) rfl rfl)
  | 1, _ => exact (zA1 (i := 63) rfl rfl)
  | 2, _ => exact (zA1 (i := 65) rfl rfl)
  | 3, _ => exact (zA1 (i := 67) rfl rfl)
  | 4, _ => exact (zA1 (i := 69) rfl rfl)
  | 5, _ => exact (zA1 (i := 71) rfl rfl)
  | k + 6, hk => exact absurd hk (by omega)
theorem inR : ∀ w ∈ u_ws RR TR 3, w ∈ zAll := by
  intro w hw
  obtain ⟨k, hk, rfl⟩ := List.mem_map.mp hw
  have hk := List.mem_range.mp hk
  match k, hk with
  | 0, _ => exact (zA1 (i := 78) rfl rfl)
  | 1, _ => exact (zA1 (i := 80) rfl rfl)
  | 2, _ => exact (zA1 (i := 82) rfl rfl)
  | k + 3, hk => exact absurd hk (by omega)
theorem inH : ∀ w ∈ u_ws RH TH 3, w ∈ zAll := by
  intro w hw
  obtain ⟨k, hk, rfl⟩ := List.mem_map.mp hw
  have hk := List.mem_range.mp hk
  match k, hk with
  | 0, _ => exact (zA1 (i := 151) rfl rfl)
  | 1, _ => exact (zA1 (i := 153) rfl rfl)
  | 2, _ => exact (zA1 (i := 155) rfl rfl)
  | k + 3, hk => exact absurd hk (by omega)
theorem inS : ∀ w ∈ u_ws RS TS 5, w ∈ zAll := by
  intro w hw
  obtain ⟨k, hk, rfl⟩ := List.mem_map.mp hw
  have hk := List.mem_range.mp hk
  match k, hk with
  | 0, _ => exact (zA1 (i := 127) rfl rfl)
  | 1, _ => exact (zA1 (i := 129) rfl rfl)
  | 2, _ => exact (zA1 (i := 131) rfl rfl)
  | 3, _ => exact (zA1 (i := 133) rfl rfl)
  | 4, _ => exact (zA1 (i := 135) rfl rfl)
  | k + 5, hk => exact absurd hk (by omega)
theorem inT : ∀ w ∈ u_ws RT TT 2, w ∈ zAll := by
  intro w hw
  obtain ⟨k, hk, rfl⟩ := List.mem_map.mp hw
  have hk := List.mem_range.mp hk
  match k, hk with
  | 0, _ => exact (zA1 (i := 31) rfl rfl)
  | 1, _ => exact (zA1 (i := 33) rfl rfl)
  | k + 2, hk => exact absurd hk (by omega)
theorem inX : ∀ w ∈ u_ws RX TX 12, w ∈ zAll := by
  intro w hw
  obtain ⟨k, hk, rfl⟩ := List.mem_map.mp hw
  have hk := List.mem_range.mp hk
  match k, hk with
  | 0, _ => exact (zA1 (i := 170) rfl rfl)
  | 1, _ => exact (zA1 (i := 172) rfl rfl)
  | 2, _ => exact (zA1 (i := 174) rfl rfl)
  | 3, _ => exact (zA1 (i := 176) rfl rfl)
  | 4, _ => exact (zA1 (i := 178) rfl rfl)
  | 5, _ => exact (zA1 (i := 180) rfl rfl)
  | 6, _ => exact (zA1 (i := 182) rfl rfl)
  | 7, _ => exact (zA1 (i := 184) rfl rfl)
  | 8, _ => exact (zA1 (i := 186) rfl rfl)
  | 9, _ => exact (zA1 (i := 188) rfl rfl)
  | 10, _ => exact (zA1 (i := 190) rfl rfl)
  | 11, _ => exact (zA1 (i := 192) rfl rfl)
  | k + 12, hk => exact absurd hk (by omega)
theorem inM : ∀ w ∈ u_ws RM TM 31, w ∈ zAll := by
  intro w hw
  obtain ⟨k, hk, rfl⟩ := List.mem_map.mp hw
  have hk := List.mem_range.mp hk
  match k, hk with
  | 0, _ => exact (zA3 (i := 35) rfl rfl)
  | 1, _ => exact (zA3 (i := 37) rfl rfl)
  | 2, _ => exact (zA3 (i := 39) rfl rfl)
  | 3, _ => exact (zA3 (i := 41) rfl rfl)
  | 4, _ => exact (zA3 (i := 43) rfl rfl)
  | 5, _ => exact (zA3 (i := 45) rfl rfl)
  | 6, _ => exact (zA3 (i := 47) rfl rfl)
  | 7, _ => exact (zA3 (i := 49) rfl rfl)
  | 8, _ => exact (zA3 (i := 51) rfl rfl)
  | 9, _ => exact (zA3 (i := 53) rfl rfl)
  | 10, _ => exact (zA3 (i := 55) rfl rfl)
  | 11, _ => exact (zA3 (i := 57) rfl rfl)
  | 12, _ => exact (zA3 (i := 59) rfl rfl)
  | 13, _ => exact (zA3 (i := 61) rfl rfl)
  | 14, _ => exact (zA3 (i := 63) rfl rfl)
  | 15, _ => exact (zA3 (i := 65) rfl rfl)
  | 16, _ => exact (zA3 (i := 67) rfl rfl)
  | 17, _ => exact (zA3 (i := 69) rfl rfl)
  | 18, _ => exact (zA3 (i := 71) rfl rfl)
  | 19, _ => exact (zA3 (i := 73) rfl rfl)
  | 20, _ => exact (zA3 (i := 75) rfl rfl)
  | 21, _ => exact (zA3 (i := 77) rfl rfl)
  | 22, _ => exact (zA3 (i := 79) rfl rfl)
  | 23, _ => exact (zA3 (i := 81) rfl rfl)
  | 24, _ => exact (zA3 (i := 83) rfl rfl)
  | 25, _ => exact (zA3 (i := 85) rfl rfl)
  | 26, _ => exact (zA3 (i := 87) rfl rfl)
  | 27, _ => exact (zA3 (i := 89) rfl rfl)
  | 28, _ => exact (zA3 (i := 91) rfl rfl)
  | 29, _ => exact (zA3 (i := 93) rfl rfl)
  | 30, _ => exact (zA3 (i := 95) rfl rfl)
  | k + 31, hk => exact absurd hk (by omega)
def zNf : List (String × Nat × String × String × String × String) := [("PostIndex$Segment", 30, "PostIndex$Text", "count", "I", "PostIndex"), ("PostIndex", 65, "PostIndex$Text", "count", "I", "PostIndex"), ("PostIndex$QueryReader", 92, "PostIndex$Text", "count", "I", "PostIndex"), ("PostIndex$QueryReader", 75, "PostIndex$Query", "wordCount", "I", "PostIndex"), ("PostIndex", 55, "PostIndex$Post", "text", "LPostIndex$Text;", "PostIndex"), ("PostIndex$Query", 47, "PostIndex$Post", "author", "I", "PostIndex"), ("PostIndex$Query", 52, "PostIndex$Post", "time", "I", "PostIndex"), ("PostIndex", 87, "PostIndex$Post", "erased", "Z", "PostIndex"), ("PostIndex", 147, "PostIndex$Segment", "termCount", "I", "PostIndex"), ("PostIndex", 141, "PostIndex$Segment", "rewritten", "I", "PostIndex"), ("PostIndex", 138, "PostIndex$Segment", "packed", "Z", "PostIndex"), ("PostIndex", 108, "PostIndex$Search", "query", "LPostIndex$Query;", "PostIndex"), ("PostIndex", 116, "PostIndex$Search", "bound", "I", "PostIndex"), ("PostIndex", 119, "PostIndex$Search", "open", "Z", "PostIndex")]
def zAo : List String := ["PostIndex$Text", "PostIndex$Post", "PostIndex$Segment", "PostIndex$Search"]
theorem zAo_in : ∀ C ∈ zAo, Cond.arrayOver (.object C) ∈ lw_tbl := by
  intro C hC
  refine List.mem_append_right _ ?_
  simp only [zAo, List.mem_cons, List.not_mem_nil, or_false] at hC
  rcases hC with rfl | rfl | rfl | rfl
  · exact List.mem_append_left _ (List.mem_of_getElem? (i := 52) rfl)
  · exact List.mem_append_left _ (List.mem_of_getElem? (i := 86) rfl)
  · exact List.mem_append_left _ (List.mem_of_getElem? (i := 111) rfl)
  · exact List.mem_append_left _ (List.mem_of_getElem? (i := 139) rfl)
theorem zNf_in : ∀ q ∈ zNf, Cond.fieldLinkNest q.1 q.2.1 q.2.2.1 q.2.2.2.1 q.2.2.2.2.1 q.2.2.2.2.2 ∈ lw_tbl := by
  intro q hq
  refine List.mem_append_right _ ?_
  simp only [zNf, List.mem_cons, List.not_mem_nil, or_false] at hq
  rcases hq with rfl | rfl | rfl | rfl | rfl | rfl | rfl | rfl | rfl | rfl | rfl | rfl | rfl | rfl
  · exact List.mem_append_left _ (List.mem_of_getElem? (i := 28) rfl)
  · exact List.mem_append_left _ (List.mem_of_getElem? (i := 29) rfl)
  · exact List.mem_append_left _ (List.mem_of_getElem? (i := 30) rfl)
  · exact List.mem_append_left _ (List.mem_of_getElem? (i := 60) rfl)
  · exact List.mem_append_left _ (List.mem_of_getElem? (i := 95) rfl)
  · exact List.mem_append_left _ (List.mem_of_getElem? (i := 97) rfl)
  · exact List.mem_append_left _ (List.mem_of_getElem? (i := 99) rfl)
  · exact List.mem_append_left _ (List.mem_of_getElem? (i := 100) rfl)
  · exact List.mem_append_left _ (List.mem_of_getElem? (i := 122) rfl)
  · exact List.mem_append_left _ (List.mem_of_getElem? (i := 124) rfl)
  · exact List.mem_append_left _ (List.mem_of_getElem? (i := 126) rfl)
  · exact List.mem_append_left _ (List.mem_of_getElem? (i := 148) rfl)
  · exact List.mem_append_left _ (List.mem_of_getElem? (i := 149) rfl)
  · exact List.mem_append_left _ (List.mem_of_getElem? (i := 150) rfl)

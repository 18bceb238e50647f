-- the words used, by their places in the tables
def dc_W : List Cond := lw_tbl.filter goodWord
theorem dc_in {w : Cond} (h : w ∈ tables_1) (hg : goodWord w = true) : w ∈ dc_W := List.mem_filter.mpr ⟨List.mem_append_right _ h, hg⟩
theorem dc_good {y : MethodName} {c : ByteArray} {n : Nat} {r : Option FieldType} (h : Cond.code y c n r ∈ dc_W) : GoodIn dc_W (Cond.code y c n r :: dc_W) := fun w hw => by
  rcases List.mem_cons.mp hw with rfl | hw
  · exact ⟨h, good_of_word (List.mem_filter.mp h).2⟩
  · exact ⟨hw, good_of_word (List.mem_filter.mp hw).2⟩
def dc_nF : List (String × Nat × String × String × String) := [("DocumentChip$Chip", 104, "DocumentChip$Session", "open", "Z"), ("DocumentChip", 242, "DocumentChip$Session", "open", "Z"), ("DocumentChip", 238, "DocumentChip$Chip", "session", "LDocumentChip$Session;"), ("DocumentChip", 64, "DocumentChip$Chip", "files", "[LDocumentChip$Row;"), ("DocumentChip$Desk", 133, "DocumentChip$Chip", "files", "[LDocumentChip$Row;"), ("DocumentChip", 204, "DocumentChip$Chip", "asked", "Z"), ("DocumentChip", 253, "DocumentChip$Chip", "selected", "I"), ("DocumentChip", 257, "DocumentChip$Chip", "done", "I"), ("DocumentChip", 106, "DocumentChip$Desk", "printed", "LDocumentChip$Line;"), ("DocumentChip", 125, "DocumentChip$Desk", "signers", "LDocumentChip$Signers;"), ("DocumentChip", 144, "DocumentChip$Desk", "way", "LDocumentChip$Way;"), ("DocumentChip", 190, "DocumentChip$Desk", "files", "[LDocumentChip$Row;"), ("DocumentChip", 184, "DocumentChip$Desk", "genuine", "Z")]
def dc_nM : List (String × Nat × MethodName) := [("DocumentChip$Chip", 11, ⟨"DocumentChip$Access", "<init>", "()V"⟩), ("DocumentChip$Chip", 20, ⟨"DocumentChip$Session", "<init>", "()V"⟩), ("DocumentChip$Chip", 37, ⟨"DocumentChip$Line", "<init>", "()V"⟩), ("DocumentChip$Desk", 11, ⟨"DocumentChip$Line", "<init>", "()V"⟩), ("DocumentChip$Desk", 20, ⟨"DocumentChip$Signers", "<init>", "()V"⟩), ("DocumentChip$Desk", 27, ⟨"DocumentChip$Way", "<init>", "()V"⟩), ("DocumentChip$Desk", 34, ⟨"DocumentChip$Access", "<init>", "()V"⟩), ("DocumentChip$Desk", 41, ⟨"DocumentChip$Session", "<init>", "()V"⟩), ("DocumentChip$Chip", 137, ⟨"DocumentChip", "isFile", "(J)Z"⟩)]
-- names of the claim, by the verifier's own program
def dn_R_Doc : String := "DocumentChip"
def dn_T_Doc : u_T := fun k => match k with
  | 0 => ("DocumentChip", "document", "LDocumentChip$Chip;", true)
  | 1 => ("DocumentChip", "desk", "LDocumentChip$Desk;", true)
  | 2 => ("DocumentChip", "proof", "LDocumentChip$Row;", true)
  | 3 => ("DocumentChip", "proofReply", "LDocumentChip$Row;", true)
  | _ => ("DocumentChip", "latestAnswer", "LDocumentChip$Row;", true)
def dn_t_Doc : Nat → FieldType := fun k => match k with
  | 0 => .object "DocumentChip$Chip"
  | 1 => .object "DocumentChip$Desk"
  | 2 => .object "DocumentChip$Row"
  | 3 => .object "DocumentChip$Row"
  | _ => .object "DocumentChip$Row"
theorem dn_n_Doc : ∀ a, a < 5 → ∀ b, b < 5 → a ≠ b → (dn_T_Doc a).2.1 ≠ (dn_T_Doc b).2.1 := by decide +kernel
theorem dn_o_Doc : ∀ k, k < 5 → parseFieldDescriptor (dn_T_Doc k).2.2.1 = some (dn_t_Doc k) := by decide +kernel
theorem dn_u_Doc : ∀ w ∈ u_ws dn_R_Doc dn_T_Doc 5, w ∈ dc_W := by
  have hg : (u_ws dn_R_Doc dn_T_Doc 5).all goodWord = true := by decide +kernel
  have h : u_ws dn_R_Doc dn_T_Doc 5 = [285, 287, 289, 291, 293].filterMap (fun i => tables_1[i]?) := by decide +kernel
  intro w hw
  have hq := List.all_eq_true.mp hg w hw
  rw [h] at hw
  obtain ⟨i, -, hi⟩ := List.mem_filterMap.mp hw
  exact dc_in (List.mem_of_getElem? hi) hq
def dn_R_Access : String := "DocumentChip$Access"
def dn_T_Access : u_T := fun k => match k with
  | 0 => ("DocumentChip$Access", "cipherKey", "J", false)
  | _ => ("DocumentChip$Access", "sealKey", "J", false)
def dn_t_Access : Nat → FieldType := fun k => match k with
  | 0 => .long
  | _ => .long
theorem dn_n_Access : ∀ a, a < 2 → ∀ b, b < 2 → a ≠ b → (dn_T_Access a).2.1 ≠ (dn_T_Access b).2.1 := by decide +kernel
theorem dn_o_Access : ∀ k, k < 2 → parseFieldDescriptor (dn_T_Access k).2.2.1 = some (dn_t_Access k) := by decide +kernel
theorem dn_u_Access : ∀ w ∈ u_ws dn_R_Access dn_T_Access 2, w ∈ dc_W := by
  have hg : (u_ws dn_R_Access dn_T_Access 2).all goodWord = true := by decide +kernel
  have h : u_ws dn_R_Access dn_T_Access 2 = [57, 59].filterMap (fun i => tables_1[i]?) := by decide +kernel
  intro w hw
  have hq := List.all_eq_true.mp hg w hw
  rw [h] at hw
  obtain ⟨i, -, hi⟩ := List.mem_filterMap.mp hw
  exact dc_in (List.mem_of_getElem? hi) hq
def dn_R_Chip : String := "DocumentChip$Chip"
def dn_T_Chip : u_T := fun k => match k with
  | 0 => ("DocumentChip$Chip", "access", "LDocumentChip$Access;", true)
  | 1 => ("DocumentChip$Chip", "session", "LDocumentChip$Session;", true)
  | 2 => ("DocumentChip$Chip", "files", "[LDocumentChip$Row;", true)
  | 3 => ("DocumentChip$Chip", "asked", "Z", false)
  | 4 => ("DocumentChip$Chip", "challengeWord", "J", false)
  | 5 => ("DocumentChip$Chip", "selected", "I", false)
  | 6 => ("DocumentChip$Chip", "done", "I", false)
  | 7 => ("DocumentChip$Chip", "q", "J", false)
  | _ => ("DocumentChip$Chip", "j", "J", false)
def dn_t_Chip : Nat → FieldType := fun k => match k with
  | 0 => .object "DocumentChip$Access"
  | 1 => .object "DocumentChip$Session"
  | 2 => .array (.object "DocumentChip$Row")
  | 3 => .boolean
  | 4 => .long
  | 5 => .int
  | 6 => .int
  | 7 => .long
  | _ => .long
theorem dn_n_Chip : ∀ a, a < 9 → ∀ b, b < 9 → a ≠ b → (dn_T_Chip a).2.1 ≠ (dn_T_Chip b).2.1 := by decide +kernel
theorem dn_o_Chip : ∀ k, k < 9 → parseFieldDescriptor (dn_T_Chip k).2.2.1 = some (dn_t_Chip k) := by decide +kernel
theorem dn_u_Chip : ∀ w ∈ u_ws dn_R_Chip dn_T_Chip 9, w ∈ dc_W := by
  have hg : (u_ws dn_R_Chip dn_T_Chip 9).all goodWord = true := by decide +kernel
  have h : u_ws dn_R_Chip dn_T_Chip 9 = [164, 166, 168, 170, 172, 174, 176, 178, 180].filterMap (fun i => tables_1[i]?) := by decide +kernel
  intro w hw
  have hq := List.all_eq_true.mp hg w hw
  rw [h] at hw
  obtain ⟨i, -, hi⟩ := List.mem_filterMap.mp hw
  exact dc_in (List.mem_of_getElem? hi) hq
def dn_R_Codes : String := "DocumentChip$Codes"
def dn_R_Desk : String := "DocumentChip$Desk"
def dn_T_Desk : u_T := fun k => match k with
  | 0 => ("DocumentChip$Desk", "chip", "LDocumentChip$Chip;", true)
  | 1 => ("DocumentChip$Desk", "printed", "LDocumentChip$Line;", true)
  | 2 => ("DocumentChip$Desk", "signers", "LDocumentChip$Signers;", true)
  | 3 => ("DocumentChip$Desk", "way", "LDocumentChip$Way;", true)
  | 4 => ("DocumentChip$Desk", "access", "LDocumentChip$Access;", true)
  | 5 => ("DocumentChip$Desk", "session", "LDocumentChip$Session;", true)
  | 6 => ("DocumentChip$Desk", "toChip", "LDocumentChip$Row;", true)
  | 7 => ("DocumentChip$Desk", "toDesk", "LDocumentChip$Row;", true)
  | 8 => ("DocumentChip$Desk", "files", "[LDocumentChip$Row;", true)
  | 9 => ("DocumentChip$Desk", "genuine", "Z", false)
  | 10 => ("DocumentChip$Desk", "t", "J", false)
  | _ => ("DocumentChip$Desk", "k", "J", false)
def dn_t_Desk : Nat → FieldType := fun k => match k with
  | 0 => .object "DocumentChip$Chip"
  | 1 => .object "DocumentChip$Line"
  | 2 => .object "DocumentChip$Signers"
  | 3 => .object "DocumentChip$Way"
  | 4 => .object "DocumentChip$Access"
  | 5 => .object "DocumentChip$Session"
  | 6 => .object "DocumentChip$Row"
  | 7 => .object "DocumentChip$Row"
  | 8 => .array (.object "DocumentChip$Row")
  | 9 => .boolean
  | 10 => .long
  | _ => .long
theorem dn_n_Desk : ∀ a, a < 12 → ∀ b, b < 12 → a ≠ b → (dn_T_Desk a).2.1 ≠ (dn_T_Desk b).2.1 := by decide +kernel
theorem dn_o_Desk : ∀ k, k < 12 → parseFieldDescriptor (dn_T_Desk k).2.2.1 = some (dn_t_Desk k) := by decide +kernel
theorem dn_u_Desk : ∀ w ∈ u_ws dn_R_Desk dn_T_Desk 12, w ∈ dc_W := by
  have hg : (u_ws dn_R_Desk dn_T_Desk 12).all goodWord = true := by decide +kernel
  have h : u_ws dn_R_Desk dn_T_Desk 12 = [255, 257, 259, 261, 263, 265, 267, 269, 271, 273, 275, 277].filterMap (fun i => tables_1[i]?) := by decide +kernel
  intro w hw
  have hq := List.all_eq_true.mp hg w hw
  rw [h] at hw
  obtain ⟨i, -, hi⟩ := List.mem_filterMap.mp hw
  exact dc_in (List.mem_of_getElem? hi) hq
def dn_R_Line : String := "DocumentChip$Line"
def dn_T_Line : u_T := fun k => match k with
  | 0 => ("DocumentChip$Line", "values", "[I", true)
  | _ => ("DocumentChip$Line", "digits", "[I", true)
def dn_t_Line : Nat → FieldType := fun k => match k with
  | 0 => .array .int
  | _ => .array .int
theorem dn_n_Line : ∀ a, a < 2 → ∀ b, b < 2 → a ≠ b → (dn_T_Line a).2.1 ≠ (dn_T_Line b).2.1 := by decide +kernel
theorem dn_o_Line : ∀ k, k < 2 → parseFieldDescriptor (dn_T_Line k).2.2.1 = some (dn_t_Line k) := by decide +kernel
theorem dn_u_Line : ∀ w ∈ u_ws dn_R_Line dn_T_Line 2, w ∈ dc_W := by
  have hg : (u_ws dn_R_Line dn_T_Line 2).all goodWord = true := by decide +kernel
  have h : u_ws dn_R_Line dn_T_Line 2 = [93, 95].filterMap (fun i => tables_1[i]?) := by decide +kernel
  intro w hw
  have hq := List.all_eq_true.mp hg w hw
  rw [h] at hw
  obtain ⟨i, -, hi⟩ := List.mem_filterMap.mp hw
  exact dc_in (List.mem_of_getElem? hi) hq
def dn_R_Row : String := "DocumentChip$Row"
def dn_T_Row : u_T := fun k => match k with
  | 0 => ("DocumentChip$Row", "words", "[J", true)
  | _ => ("DocumentChip$Row", "size", "I", false)
def dn_t_Row : Nat → FieldType := fun k => match k with
  | 0 => .array .long
  | _ => .int
theorem dn_n_Row : ∀ a, a < 2 → ∀ b, b < 2 → a ≠ b → (dn_T_Row a).2.1 ≠ (dn_T_Row b).2.1 := by decide +kernel
theorem dn_o_Row : ∀ k, k < 2 → parseFieldDescriptor (dn_T_Row k).2.2.1 = some (dn_t_Row k) := by decide +kernel
theorem dn_u_Row : ∀ w ∈ u_ws dn_R_Row dn_T_Row 2, w ∈ dc_W := by
  have hg : (u_ws dn_R_Row dn_T_Row 2).all goodWord = true := by decide +kernel
  have h : u_ws dn_R_Row dn_T_Row 2 = [37, 39].filterMap (fun i => tables_1[i]?) := by decide +kernel
  intro w hw
  have hq := List.all_eq_true.mp hg w hw
  rw [h] at hw
  obtain ⟨i, -, hi⟩ := List.mem_filterMap.mp hw
  exact dc_in (List.mem_of_getElem? hi) hq
def dn_R_Session : String := "DocumentChip$Session"
def dn_T_Session : u_T := fun k => match k with
  | 0 => ("DocumentChip$Session", "open", "Z", false)
  | 1 => ("DocumentChip$Session", "cipherKey", "J", false)
  | 2 => ("DocumentChip$Session", "sealKey", "J", false)
  | _ => ("DocumentChip$Session", "counter", "J", false)
def dn_t_Session : Nat → FieldType := fun k => match k with
  | 0 => .boolean
  | 1 => .long
  | 2 => .long
  | _ => .long
theorem dn_n_Session : ∀ a, a < 4 → ∀ b, b < 4 → a ≠ b → (dn_T_Session a).2.1 ≠ (dn_T_Session b).2.1 := by decide +kernel
theorem dn_o_Session : ∀ k, k < 4 → parseFieldDescriptor (dn_T_Session k).2.2.1 = some (dn_t_Session k) := by decide +kernel
theorem dn_u_Session : ∀ w ∈ u_ws dn_R_Session dn_T_Session 4, w ∈ dc_W := by
  have hg : (u_ws dn_R_Session dn_T_Session 4).all goodWord = true := by decide +kernel
  have h : u_ws dn_R_Session dn_T_Session 4 = [74, 76, 78, 80].filterMap (fun i => tables_1[i]?) := by decide +kernel
  intro w hw
  have hq := List.all_eq_true.mp hg w hw
  rw [h] at hw
  obtain ⟨i, -, hi⟩ := List.mem_filterMap.mp hw
  exact dc_in (List.mem_of_getElem? hi) hq
def dn_R_Signers : String := "DocumentChip$Signers"
def dn_T_Signers : u_T := fun k => match k with
  | 0 => ("DocumentChip$Signers", "names", "[J", true)
  | 1 => ("DocumentChip$Signers", "moduli", "[I", true)
  | 2 => ("DocumentChip$Signers", "exponents", "[I", true)
  | _ => ("DocumentChip$Signers", "count", "I", false)
def dn_t_Signers : Nat → FieldType := fun k => match k with
  | 0 => .array .long
  | 1 => .array .int
  | 2 => .array .int
  | _ => .int
theorem dn_n_Signers : ∀ a, a < 4 → ∀ b, b < 4 → a ≠ b → (dn_T_Signers a).2.1 ≠ (dn_T_Signers b).2.1 := by decide +kernel
theorem dn_o_Signers : ∀ k, k < 4 → parseFieldDescriptor (dn_T_Signers k).2.2.1 = some (dn_t_Signers k) := by decide +kernel
theorem dn_u_Signers : ∀ w ∈ u_ws dn_R_Signers dn_T_Signers 4, w ∈ dc_W := by
  have hg : (u_ws dn_R_Signers dn_T_Signers 4).all goodWord = true := by decide +kernel
  have h : u_ws dn_R_Signers dn_T_Signers 4 = [201, 203, 205, 207].filterMap (fun i => tables_1[i]?) := by decide +kernel
  intro w hw
  have hq := List.all_eq_true.mp hg w hw
  rw [h] at hw
  obtain ⟨i, -, hi⟩ := List.mem_filterMap.mp hw
  exact dc_in (List.mem_of_getElem? hi) hq
def dn_R_Way : String := "DocumentChip$Way"
def dn_T_Way : u_T := fun k => match k with
  | 0 => ("DocumentChip$Way", "atMessage", "[I", true)
  | 1 => ("DocumentChip$Way", "atWord", "[I", true)
  | 2 => ("DocumentChip$Way", "masks", "[J", true)
  | 3 => ("DocumentChip$Way", "told", "I", false)
  | _ => ("DocumentChip$Way", "carried", "I", false)
def dn_t_Way : Nat → FieldType := fun k => match k with
  | 0 => .array .int
  | 1 => .array .int
  | 2 => .array .long
  | 3 => .int
  | _ => .int
theorem dn_n_Way : ∀ a, a < 5 → ∀ b, b < 5 → a ≠ b → (dn_T_Way a).2.1 ≠ (dn_T_Way b).2.1 := by decide +kernel
theorem dn_o_Way : ∀ k, k < 5 → parseFieldDescriptor (dn_T_Way k).2.2.1 = some (dn_t_Way k) := by decide +kernel
theorem dn_u_Way : ∀ w ∈ u_ws dn_R_Way dn_T_Way 5, w ∈ dc_W := by
  have hg : (u_ws dn_R_Way dn_T_Way 5).all goodWord = true := by decide +kernel
  have h : u_ws dn_R_Way dn_T_Way 5 = [221, 223, 225, 227, 229].filterMap (fun i => tables_1[i]?) := by decide +kernel
  intro w hw
  have hq := List.all_eq_true.mp hg w hw
  rw [h] at hw
  obtain ⟨i, -, hi⟩ := List.mem_filterMap.mp hw
  exact dc_in (List.mem_of_getElem? hi) hq
def dn_R_Mod : String := "DocumentChipModel"
def dn_T_Mod : u_T := fun k => match k with
  | 0 => ("DocumentChipModel", "field", "[I", true)
  | 1 => ("DocumentChipModel", "file", "[J", true)
  | 2 => ("DocumentChipModel", "size", "[I", true)
  | 3 => ("DocumentChipModel", "session", "Z", false)
  | 4 => ("DocumentChipModel", "chipE", "J", false)
  | 5 => ("DocumentChipModel", "chipM", "J", false)
  | 6 => ("DocumentChipModel", "chipCounter", "J", false)
  | 7 => ("DocumentChipModel", "selected", "I", false)
  | 8 => ("DocumentChipModel", "given", "Z", false)
  | 9 => ("DocumentChipModel", "challenge", "J", false)
  | 10 => ("DocumentChipModel", "done", "I", false)
  | 11 => ("DocumentChipModel", "answers", "I", false)
  | 12 => ("DocumentChipModel", "answer", "[J", true)
  | 13 => ("DocumentChipModel", "typed", "[I", true)
  | 14 => ("DocumentChipModel", "typedDigit", "[I", true)
  | 15 => ("DocumentChipModel", "trusted", "I", false)
  | 16 => ("DocumentChipModel", "signer", "[J", true)
  | 17 => ("DocumentChipModel", "modulus", "[I", true)
  | 18 => ("DocumentChipModel", "exponent", "[I", true)
  | 19 => ("DocumentChipModel", "drawn", "[J", true)
  | 20 => ("DocumentChipModel", "changes", "I", false)
  | 21 => ("DocumentChipModel", "changeMessage", "[I", true)
  | 22 => ("DocumentChipModel", "changeWord", "[I", true)
  | 23 => ("DocumentChipModel", "changeMask", "[J", true)
  | 24 => ("DocumentChipModel", "deskE", "J", false)
  | 25 => ("DocumentChipModel", "deskM", "J", false)
  | 26 => ("DocumentChipModel", "deskCounter", "J", false)
  | 27 => ("DocumentChipModel", "got", "[J", true)
  | 28 => ("DocumentChipModel", "gotSize", "[I", true)
  | 29 => ("DocumentChipModel", "genuine", "Z", false)
  | 30 => ("DocumentChipModel", "messages", "I", false)
  | 31 => ("DocumentChipModel", "row", "[J", true)
  | 32 => ("DocumentChipModel", "mail", "[J", true)
  | _ => ("DocumentChipModel", "thrown", "I", false)
def dn_t_Mod : Nat → FieldType := fun k => match k with
  | 0 => .array .int
  | 1 => .array .long
  | 2 => .array .int
  | 3 => .boolean
  | 4 => .long
  | 5 => .long
  | 6 => .long
  | 7 => .int
  | 8 => .boolean
  | 9 => .long
  | 10 => .int
  | 11 => .int
  | 12 => .array .long
  | 13 => .array .int
  | 14 => .array .int
  | 15 => .int
  | 16 => .array .long
  | 17 => .array .int
  | 18 => .array .int
  | 19 => .array .long
  | 20 => .int
  | 21 => .array .int
  | 22 => .array .int
  | 23 => .array .long
  | 24 => .long
  | 25 => .long
  | 26 => .long
  | 27 => .array .long
  | 28 => .array .int
  | 29 => .boolean
  | 30 => .int
  | 31 => .array .long
  | 32 => .array .long
  | _ => .int
theorem dn_n_Mod : ∀ a, a < 34 → ∀ b, b < 34 → a ≠ b → (dn_T_Mod a).2.1 ≠ (dn_T_Mod b).2.1 := by decide +kernel
theorem dn_o_Mod : ∀ k, k < 34 → parseFieldDescriptor (dn_T_Mod k).2.2.1 = some (dn_t_Mod k) := by decide +kernel
theorem dn_u_Mod : ∀ w ∈ u_ws dn_R_Mod dn_T_Mod 34, w ∈ dc_W := by
  have hg : (u_ws dn_R_Mod dn_T_Mod 34).all goodWord = true := by decide +kernel
  have h : u_ws dn_R_Mod dn_T_Mod 34 = [892, 894, 896, 898, 900, 902, 904, 906, 908, 910, 912, 914, 916, 918, 920, 922, 924, 926, 928, 930, 932, 934, 936, 938, 940, 942, 944, 946, 948, 950, 952, 954, 956, 958].filterMap (fun i => tables_1[i]?) := by decide +kernel
  intro w hw
  have hq := List.all_eq_true.mp hg w hw
  rw [h] at hw
  obtain ⟨i, -, hi⟩ := List.mem_filterMap.mp hw
  exact dc_in (List.mem_of_getElem? hi) hq
def dn_R_Law : String := "DocumentChipLaw"
abbrev vwCl : List vw_C := [(dn_R_Doc, dn_T_Doc, 5), (dn_R_Access, dn_T_Access, 2), (dn_R_Chip, dn_T_Chip, 9), (dn_R_Desk, dn_T_Desk, 12), (dn_R_Line, dn_T_Line, 2), (dn_R_Row, dn_T_Row, 2), (dn_R_Session, dn_T_Session, 4), (dn_R_Signers, dn_T_Signers, 4), (dn_R_Way, dn_T_Way, 5), (dn_R_Mod, dn_T_Mod, 34)]
abbrev dc_row : Nat := 5
abbrev dc_rowC : vw_C := (dn_R_Row, dn_T_Row, 2)
abbrev dn_c_Doc_init : ByteArray := prog_1_method_1_code
def dn_y_Doc_init : MethodName := ⟨"DocumentChip", "<init>", "(III)V"⟩
abbrev dn_c_Doc_digest : ByteArray := prog_1_method_2_code
def dn_y_Doc_digest : MethodName := ⟨"DocumentChip", "digest", "(JJ)J"⟩
abbrev dn_c_Doc_cipher : ByteArray := prog_1_method_3_code
def dn_y_Doc_cipher : MethodName := ⟨"DocumentChip", "cipher", "(JJ)J"⟩
abbrev dn_c_Doc_load : ByteArray := prog_1_method_4_code
def dn_y_Doc_load : MethodName := ⟨"DocumentChip", "load", "(IJ)I"⟩
abbrev dn_c_Doc_sign : ByteArray := prog_1_method_5_code
def dn_y_Doc_sign : MethodName := ⟨"DocumentChip", "sign", "(J)J"⟩
abbrev dn_c_Doc_print : ByteArray := prog_1_method_6_code
def dn_y_Doc_print : MethodName := ⟨"DocumentChip", "print", "(III)Z"⟩
abbrev dn_c_Doc_check : ByteArray := prog_1_method_7_code
def dn_y_Doc_check : MethodName := ⟨"DocumentChip", "check", "(II)I"⟩
abbrev dn_c_Doc_trust : ByteArray := prog_1_method_8_code
def dn_y_Doc_trust : MethodName := ⟨"DocumentChip", "trust", "(JII)I"⟩
abbrev dn_c_Doc_draw : ByteArray := prog_1_method_9_code
def dn_y_Doc_draw : MethodName := ⟨"DocumentChip", "draw", "(JJJJ)Z"⟩
abbrev dn_c_Doc_change : ByteArray := prog_1_method_10_code
def dn_y_Doc_change : MethodName := ⟨"DocumentChip", "change", "(IIJ)I"⟩
abbrev dn_c_Doc_inspect : ByteArray := prog_1_method_11_code
def dn_y_Doc_inspect : MethodName := ⟨"DocumentChip", "inspect", "()I"⟩
abbrev dn_c_Doc_messages : ByteArray := prog_1_method_12_code
def dn_y_Doc_messages : MethodName := ⟨"DocumentChip", "messages", "()I"⟩
abbrev dn_c_Doc_held : ByteArray := prog_1_method_13_code
def dn_y_Doc_held : MethodName := ⟨"DocumentChip", "held", "(II)J"⟩
abbrev dn_c_Doc_challenge : ByteArray := prog_1_method_14_code
def dn_y_Doc_challenge : MethodName := ⟨"DocumentChip", "challenge", "()J"⟩
abbrev dn_c_Doc_prove : ByteArray := prog_1_method_15_code
def dn_y_Doc_prove : MethodName := ⟨"DocumentChip", "prove", "(JJJJ)J"⟩
abbrev dn_c_Doc_command : ByteArray := prog_1_method_16_code
def dn_y_Doc_command : MethodName := ⟨"DocumentChip", "command", "(IJJ)I"⟩
abbrev dn_c_Doc_answer : ByteArray := prog_1_method_17_code
def dn_y_Doc_answer : MethodName := ⟨"DocumentChip", "answer", "(I)J"⟩
abbrev dn_c_Doc_needed : ByteArray := prog_1_method_18_code
def dn_y_Doc_needed : MethodName := ⟨"DocumentChip", "needed", "(IJ)J"⟩
abbrev dn_c_Doc_hidden : ByteArray := prog_1_method_19_code
def dn_y_Doc_hidden : MethodName := ⟨"DocumentChip", "hidden", "(J)J"⟩
abbrev dn_c_Doc_chip : ByteArray := prog_1_method_20_code
def dn_y_Doc_chip : MethodName := ⟨"DocumentChip", "chip", "(I)I"⟩
abbrev dn_c_Doc_isFile : ByteArray := prog_1_method_21_code
def dn_y_Doc_isFile : MethodName := ⟨"DocumentChip", "isFile", "(J)Z"⟩
abbrev dn_c_Access_init : ByteArray := prog_2_method_1_code
def dn_y_Access_init : MethodName := ⟨"DocumentChip$Access", "<init>", "()V"⟩
abbrev dn_c_Access_derive : ByteArray := prog_2_method_2_code
def dn_y_Access_derive : MethodName := ⟨"DocumentChip$Access", "derive", "(J)V"⟩
abbrev dn_c_Access_wrap : ByteArray := prog_2_method_3_code
def dn_y_Access_wrap : MethodName := ⟨"DocumentChip$Access", "wrap", "(LDocumentChip$Row;JJJ)V"⟩
abbrev dn_c_Access_sealHolds : ByteArray := prog_2_method_4_code
def dn_y_Access_sealHolds : MethodName := ⟨"DocumentChip$Access", "sealHolds", "(LDocumentChip$Row;)Z"⟩
abbrev dn_c_Access_find : ByteArray := prog_2_method_5_code
def dn_y_Access_find : MethodName := ⟨"DocumentChip$Access", "find", "(LDocumentChip$Row;I)J"⟩
abbrev dn_c_Chip_init : ByteArray := prog_3_method_1_code
def dn_y_Chip_init : MethodName := ⟨"DocumentChip$Chip", "<init>", "(III)V"⟩
abbrev dn_c_Chip_setDrawn : ByteArray := prog_3_method_2_code
def dn_y_Chip_setDrawn : MethodName := ⟨"DocumentChip$Chip", "setDrawn", "(JJ)V"⟩
abbrev dn_c_Chip_putSigned : ByteArray := prog_3_method_3_code
def dn_y_Chip_putSigned : MethodName := ⟨"DocumentChip$Chip", "putSigned", "(J)J"⟩
abbrev dn_c_Chip_drop : ByteArray := prog_3_method_4_code
def dn_y_Chip_drop : MethodName := ⟨"DocumentChip$Chip", "drop", "()V"⟩
abbrev dn_c_Chip_giveChallenge : ByteArray := prog_3_method_5_code
def dn_y_Chip_giveChallenge : MethodName := ⟨"DocumentChip$Chip", "giveChallenge", "()J"⟩
abbrev dn_c_Chip_meet : ByteArray := prog_3_method_6_code
def dn_y_Chip_meet : MethodName := ⟨"DocumentChip$Chip", "meet", "(LDocumentChip$Row;LDocumentChip$Row;)Z"⟩
abbrev dn_c_Chip_obey : ByteArray := prog_3_method_7_code
def dn_y_Chip_obey : MethodName := ⟨"DocumentChip$Chip", "obey", "(JJJLDocumentChip$Row;)I"⟩
abbrev dn_c_Chip_refuse : ByteArray := prog_3_method_8_code
def dn_y_Chip_refuse : MethodName := ⟨"DocumentChip$Chip", "refuse", "(I)I"⟩
abbrev dn_c_Chip_select : ByteArray := prog_3_method_9_code
def dn_y_Chip_select : MethodName := ⟨"DocumentChip$Chip", "select", "(J)I"⟩
abbrev dn_c_Chip_read : ByteArray := prog_3_method_10_code
def dn_y_Chip_read : MethodName := ⟨"DocumentChip$Chip", "read", "(JLDocumentChip$Row;)I"⟩
abbrev dn_c_Codes_digestOfTwo : ByteArray := prog_4_method_2_code
def dn_y_Codes_digestOfTwo : MethodName := ⟨"DocumentChip$Codes", "digestOfTwo", "(JJ)J"⟩
abbrev dn_c_Codes_digestOfThree : ByteArray := prog_4_method_3_code
def dn_y_Codes_digestOfThree : MethodName := ⟨"DocumentChip$Codes", "digestOfThree", "(JJJ)J"⟩
abbrev dn_c_Codes_digestOfRow : ByteArray := prog_4_method_4_code
def dn_y_Codes_digestOfRow : MethodName := ⟨"DocumentChip$Codes", "digestOfRow", "(LDocumentChip$Row;)J"⟩
abbrev dn_c_Codes_signedNumber : ByteArray := prog_4_method_5_code
def dn_y_Codes_signedNumber : MethodName := ⟨"DocumentChip$Codes", "signedNumber", "(LDocumentChip$Row;)J"⟩
abbrev dn_c_Codes_mix : ByteArray := prog_4_method_6_code
def dn_y_Codes_mix : MethodName := ⟨"DocumentChip$Codes", "mix", "(JJ)J"⟩
abbrev dn_c_Codes_encipher : ByteArray := prog_4_method_7_code
def dn_y_Codes_encipher : MethodName := ⟨"DocumentChip$Codes", "encipher", "(JJ)J"⟩
abbrev dn_c_Codes_decipher : ByteArray := prog_4_method_8_code
def dn_y_Codes_decipher : MethodName := ⟨"DocumentChip$Codes", "decipher", "(JJ)J"⟩
abbrev dn_c_Codes_scramble : ByteArray := prog_4_method_9_code
def dn_y_Codes_scramble : MethodName := ⟨"DocumentChip$Codes", "scramble", "(JII)I"⟩
abbrev dn_c_Codes_joined : ByteArray := prog_4_method_10_code
def dn_y_Codes_joined : MethodName := ⟨"DocumentChip$Codes", "joined", "(JJ)J"⟩
abbrev dn_c_Codes_sealOfThree : ByteArray := prog_4_method_11_code
def dn_y_Codes_sealOfThree : MethodName := ⟨"DocumentChip$Codes", "sealOfThree", "(JJJJ)J"⟩
abbrev dn_c_Desk_init : ByteArray := prog_5_method_1_code
def dn_y_Desk_init : MethodName := ⟨"DocumentChip$Desk", "<init>", "(LDocumentChip$Chip;)V"⟩
abbrev dn_c_Desk_setDrawn : ByteArray := prog_5_method_2_code
def dn_y_Desk_setDrawn : MethodName := ⟨"DocumentChip$Desk", "setDrawn", "(JJ)Z"⟩
abbrev dn_c_Desk_begin : ByteArray := prog_5_method_3_code
def dn_y_Desk_begin : MethodName := ⟨"DocumentChip$Desk", "begin", "()V"⟩
abbrev dn_c_Desk_finish : ByteArray := prog_5_method_4_code
def dn_y_Desk_finish : MethodName := ⟨"DocumentChip$Desk", "finish", "(I)V"⟩
abbrev dn_c_Desk_openChip : ByteArray := prog_5_method_5_code
def dn_y_Desk_openChip : MethodName := ⟨"DocumentChip$Desk", "openChip", "()I"⟩
abbrev dn_c_Desk_readFiles : ByteArray := prog_5_method_6_code
def dn_y_Desk_readFiles : MethodName := ⟨"DocumentChip$Desk", "readFiles", "()I"⟩
abbrev dn_c_Desk_ask : ByteArray := prog_5_method_7_code
def dn_y_Desk_ask : MethodName := ⟨"DocumentChip$Desk", "ask", "(IIILDocumentChip$Row;)I"⟩
abbrev dn_c_Desk_judge : ByteArray := prog_5_method_8_code
def dn_y_Desk_judge : MethodName := ⟨"DocumentChip$Desk", "judge", "()I"⟩
abbrev dn_c_Line_init : ByteArray := prog_6_method_1_code
def dn_y_Line_init : MethodName := ⟨"DocumentChip$Line", "<init>", "()V"⟩
abbrev dn_c_Line_isField : ByteArray := prog_6_method_2_code
def dn_y_Line_isField : MethodName := ⟨"DocumentChip$Line", "isField", "(I)Z"⟩
abbrev dn_c_Line_fits : ByteArray := prog_6_method_3_code
def dn_y_Line_fits : MethodName := ⟨"DocumentChip$Line", "fits", "(II)Z"⟩
abbrev dn_c_Line_rightDigit : ByteArray := prog_6_method_4_code
def dn_y_Line_rightDigit : MethodName := ⟨"DocumentChip$Line", "rightDigit", "(II)I"⟩
abbrev dn_c_Line_put : ByteArray := prog_6_method_5_code
def dn_y_Line_put : MethodName := ⟨"DocumentChip$Line", "put", "(III)V"⟩
abbrev dn_c_Line_putFitting : ByteArray := prog_6_method_6_code
def dn_y_Line_putFitting : MethodName := ⟨"DocumentChip$Line", "putFitting", "(II)V"⟩
abbrev dn_c_Line_isRight : ByteArray := prog_6_method_7_code
def dn_y_Line_isRight : MethodName := ⟨"DocumentChip$Line", "isRight", "(I)Z"⟩
abbrev dn_c_Line_isAllRight : ByteArray := prog_6_method_8_code
def dn_y_Line_isAllRight : MethodName := ⟨"DocumentChip$Line", "isAllRight", "()Z"⟩
abbrev dn_c_Line_word : ByteArray := prog_6_method_9_code
def dn_y_Line_word : MethodName := ⟨"DocumentChip$Line", "word", "(I)J"⟩
abbrev dn_c_Line_seed : ByteArray := prog_6_method_10_code
def dn_y_Line_seed : MethodName := ⟨"DocumentChip$Line", "seed", "()J"⟩
abbrev dn_c_Line_isIn : ByteArray := prog_6_method_11_code
def dn_y_Line_isIn : MethodName := ⟨"DocumentChip$Line", "isIn", "(LDocumentChip$Row;)Z"⟩
abbrev dn_c_Row_init : ByteArray := prog_7_method_1_code
def dn_y_Row_init : MethodName := ⟨"DocumentChip$Row", "<init>", "(I)V"⟩
abbrev dn_c_Row_size : ByteArray := prog_7_method_2_code
def dn_y_Row_size : MethodName := ⟨"DocumentChip$Row", "size", "()I"⟩
abbrev dn_c_Row_isFull : ByteArray := prog_7_method_3_code
def dn_y_Row_isFull : MethodName := ⟨"DocumentChip$Row", "isFull", "()Z"⟩
abbrev dn_c_Row_has : ByteArray := prog_7_method_4_code
def dn_y_Row_has : MethodName := ⟨"DocumentChip$Row", "has", "(I)Z"⟩
abbrev dn_c_Row_get : ByteArray := prog_7_method_5_code
def dn_y_Row_get : MethodName := ⟨"DocumentChip$Row", "get", "(I)J"⟩
abbrev dn_c_Row_last : ByteArray := prog_7_method_6_code
def dn_y_Row_last : MethodName := ⟨"DocumentChip$Row", "last", "()J"⟩
abbrev dn_c_Row_clear : ByteArray := prog_7_method_7_code
def dn_y_Row_clear : MethodName := ⟨"DocumentChip$Row", "clear", "()V"⟩
abbrev dn_c_Row_add : ByteArray := prog_7_method_8_code
def dn_y_Row_add : MethodName := ⟨"DocumentChip$Row", "add", "(J)V"⟩
abbrev dn_c_Row_put : ByteArray := prog_7_method_9_code
def dn_y_Row_put : MethodName := ⟨"DocumentChip$Row", "put", "(IJ)V"⟩
abbrev dn_c_Session_init : ByteArray := prog_8_method_1_code
def dn_y_Session_init : MethodName := ⟨"DocumentChip$Session", "<init>", "()V"⟩
abbrev dn_c_Session_begin : ByteArray := prog_8_method_2_code
def dn_y_Session_begin : MethodName := ⟨"DocumentChip$Session", "begin", "(JJJ)V"⟩
abbrev dn_c_Session_close : ByteArray := prog_8_method_3_code
def dn_y_Session_close : MethodName := ⟨"DocumentChip$Session", "close", "()V"⟩
abbrev dn_c_Session_step : ByteArray := prog_8_method_4_code
def dn_y_Session_step : MethodName := ⟨"DocumentChip$Session", "step", "()V"⟩
abbrev dn_c_Session_nextSeal : ByteArray := prog_8_method_5_code
def dn_y_Session_nextSeal : MethodName := ⟨"DocumentChip$Session", "nextSeal", "(JJ)J"⟩
abbrev dn_c_Session_nextData : ByteArray := prog_8_method_6_code
def dn_y_Session_nextData : MethodName := ⟨"DocumentChip$Session", "nextData", "(J)J"⟩
abbrev dn_c_Session_find : ByteArray := prog_8_method_7_code
def dn_y_Session_find : MethodName := ⟨"DocumentChip$Session", "find", "(J)J"⟩
abbrev dn_c_Session_wrap : ByteArray := prog_8_method_8_code
def dn_y_Session_wrap : MethodName := ⟨"DocumentChip$Session", "wrap", "(LDocumentChip$Row;)V"⟩
abbrev dn_c_Session_unwrap : ByteArray := prog_8_method_9_code
def dn_y_Session_unwrap : MethodName := ⟨"DocumentChip$Session", "unwrap", "(LDocumentChip$Row;ILDocumentChip$Row;)Z"⟩
abbrev dn_c_Session_sealOf : ByteArray := prog_8_method_10_code
def dn_y_Session_sealOf : MethodName := ⟨"DocumentChip$Session", "sealOf", "(LDocumentChip$Row;I)J"⟩
abbrev dn_c_Signers_init : ByteArray := prog_9_method_1_code
def dn_y_Signers_init : MethodName := ⟨"DocumentChip$Signers", "<init>", "()V"⟩
abbrev dn_c_Signers_isFull : ByteArray := prog_9_method_2_code
def dn_y_Signers_isFull : MethodName := ⟨"DocumentChip$Signers", "isFull", "()Z"⟩
abbrev dn_c_Signers_add : ByteArray := prog_9_method_3_code
def dn_y_Signers_add : MethodName := ⟨"DocumentChip$Signers", "add", "(JII)I"⟩
abbrev dn_c_Signers_find : ByteArray := prog_9_method_4_code
def dn_y_Signers_find : MethodName := ⟨"DocumentChip$Signers", "find", "(J)I"⟩
abbrev dn_c_Signers_hasSigned : ByteArray := prog_9_method_5_code
def dn_y_Signers_hasSigned : MethodName := ⟨"DocumentChip$Signers", "hasSigned", "(IJJ)Z"⟩
abbrev dn_c_Signers_power : ByteArray := prog_9_method_6_code
def dn_y_Signers_power : MethodName := ⟨"DocumentChip$Signers", "power", "(JII)J"⟩
abbrev dn_c_Way_init : ByteArray := prog_10_method_1_code
def dn_y_Way_init : MethodName := ⟨"DocumentChip$Way", "<init>", "()V"⟩
abbrev dn_c_Way_isFull : ByteArray := prog_10_method_2_code
def dn_y_Way_isFull : MethodName := ⟨"DocumentChip$Way", "isFull", "()Z"⟩
abbrev dn_c_Way_tell : ByteArray := prog_10_method_3_code
def dn_y_Way_tell : MethodName := ⟨"DocumentChip$Way", "tell", "(IIJ)I"⟩
abbrev dn_c_Way_begin : ByteArray := prog_10_method_4_code
def dn_y_Way_begin : MethodName := ⟨"DocumentChip$Way", "begin", "()V"⟩
abbrev dn_c_Way_forget : ByteArray := prog_10_method_5_code
def dn_y_Way_forget : MethodName := ⟨"DocumentChip$Way", "forget", "()V"⟩
abbrev dn_c_Way_count : ByteArray := prog_10_method_6_code
def dn_y_Way_count : MethodName := ⟨"DocumentChip$Way", "count", "()I"⟩
abbrev dn_c_Way_carry : ByteArray := prog_10_method_7_code
def dn_y_Way_carry : MethodName := ⟨"DocumentChip$Way", "carry", "(LDocumentChip$Row;)V"⟩
abbrev dn_c_Mod_init : ByteArray := prog_12_method_1_code
def dn_y_Mod_init : MethodName := ⟨"DocumentChipModel", "<init>", "(III)V"⟩
abbrev dn_c_Mod_thrown : ByteArray := prog_12_method_2_code
def dn_y_Mod_thrown : MethodName := ⟨"DocumentChipModel", "thrown", "()I"⟩
abbrev dn_c_Mod_digestRow : ByteArray := prog_12_method_3_code
def dn_y_Mod_digestRow : MethodName := ⟨"DocumentChipModel", "digestRow", "(I)J"⟩
abbrev dn_c_Mod_digest : ByteArray := prog_12_method_4_code
def dn_y_Mod_digest : MethodName := ⟨"DocumentChipModel", "digest", "(JJ)J"⟩
abbrev dn_c_Mod_both : ByteArray := prog_12_method_5_code
def dn_y_Mod_both : MethodName := ⟨"DocumentChipModel", "both", "(JJ)J"⟩
abbrev dn_c_Mod_mixed : ByteArray := prog_12_method_6_code
def dn_y_Mod_mixed : MethodName := ⟨"DocumentChipModel", "mixed", "(JII)I"⟩
abbrev dn_c_Mod_joined : ByteArray := prog_12_method_7_code
def dn_y_Mod_joined : MethodName := ⟨"DocumentChipModel", "joined", "(II)J"⟩
abbrev dn_c_Mod_hide : ByteArray := prog_12_method_8_code
def dn_y_Mod_hide : MethodName := ⟨"DocumentChipModel", "hide", "(JJ)J"⟩
abbrev dn_c_Mod_show : ByteArray := prog_12_method_9_code
def dn_y_Mod_show : MethodName := ⟨"DocumentChipModel", "show", "(JJ)J"⟩
abbrev dn_c_Mod_cipher : ByteArray := prog_12_method_10_code
def dn_y_Mod_cipher : MethodName := ⟨"DocumentChipModel", "cipher", "(JJ)J"⟩
abbrev dn_c_Mod_seal : ByteArray := prog_12_method_11_code
def dn_y_Mod_seal : MethodName := ⟨"DocumentChipModel", "seal", "(JI)J"⟩
abbrev dn_c_Mod_sealOf : ByteArray := prog_12_method_12_code
def dn_y_Mod_sealOf : MethodName := ⟨"DocumentChipModel", "sealOf", "(JJJJ)J"⟩
abbrev dn_c_Mod_digitOf : ByteArray := prog_12_method_13_code
def dn_y_Mod_digitOf : MethodName := ⟨"DocumentChipModel", "digitOf", "(II)I"⟩
abbrev dn_c_Mod_digitsOf : ByteArray := prog_12_method_14_code
def dn_y_Mod_digitsOf : MethodName := ⟨"DocumentChipModel", "digitsOf", "(I)I"⟩
abbrev dn_c_Mod_check : ByteArray := prog_12_method_15_code
def dn_y_Mod_check : MethodName := ⟨"DocumentChipModel", "check", "(II)I"⟩
abbrev dn_c_Mod_chipSeed : ByteArray := prog_12_method_16_code
def dn_y_Mod_chipSeed : MethodName := ⟨"DocumentChipModel", "chipSeed", "()J"⟩
abbrev dn_c_Mod_printed : ByteArray := prog_12_method_17_code
def dn_y_Mod_printed : MethodName := ⟨"DocumentChipModel", "printed", "(I)J"⟩
abbrev dn_c_Mod_printSeed : ByteArray := prog_12_method_18_code
def dn_y_Mod_printSeed : MethodName := ⟨"DocumentChipModel", "printSeed", "()J"⟩
abbrev dn_c_Mod_load : ByteArray := prog_12_method_19_code
def dn_y_Mod_load : MethodName := ⟨"DocumentChipModel", "load", "(IJ)I"⟩
abbrev dn_c_Mod_digestFile : ByteArray := prog_12_method_20_code
def dn_y_Mod_digestFile : MethodName := ⟨"DocumentChipModel", "digestFile", "(I)J"⟩
abbrev dn_c_Mod_sign : ByteArray := prog_12_method_21_code
def dn_y_Mod_sign : MethodName := ⟨"DocumentChipModel", "sign", "(J)J"⟩
abbrev dn_c_Mod_print : ByteArray := prog_12_method_22_code
def dn_y_Mod_print : MethodName := ⟨"DocumentChipModel", "print", "(III)Z"⟩
abbrev dn_c_Mod_trust : ByteArray := prog_12_method_23_code
def dn_y_Mod_trust : MethodName := ⟨"DocumentChipModel", "trust", "(JII)I"⟩
abbrev dn_c_Mod_draw : ByteArray := prog_12_method_24_code
def dn_y_Mod_draw : MethodName := ⟨"DocumentChipModel", "draw", "(JJJJ)Z"⟩
abbrev dn_c_Mod_change : ByteArray := prog_12_method_25_code
def dn_y_Mod_change : MethodName := ⟨"DocumentChipModel", "change", "(IIJ)I"⟩
abbrev dn_c_Mod_noSession : ByteArray := prog_12_method_26_code
def dn_y_Mod_noSession : MethodName := ⟨"DocumentChipModel", "noSession", "()V"⟩
abbrev dn_c_Mod_give : ByteArray := prog_12_method_27_code
def dn_y_Mod_give : MethodName := ⟨"DocumentChipModel", "give", "()V"⟩
abbrev dn_c_Mod_proved : ByteArray := prog_12_method_28_code
def dn_y_Mod_proved : MethodName := ⟨"DocumentChipModel", "proved", "()Z"⟩
abbrev dn_c_Mod_error : ByteArray := prog_12_method_29_code
def dn_y_Mod_error : MethodName := ⟨"DocumentChipModel", "error", "(JJJ)I"⟩
abbrev dn_c_Mod_commanded : ByteArray := prog_12_method_30_code
def dn_y_Mod_commanded : MethodName := ⟨"DocumentChipModel", "commanded", "(JJJ)I"⟩
abbrev dn_c_Mod_challenge : ByteArray := prog_12_method_31_code
def dn_y_Mod_challenge : MethodName := ⟨"DocumentChipModel", "challenge", "()J"⟩
abbrev dn_c_Mod_prove : ByteArray := prog_12_method_32_code
def dn_y_Mod_prove : MethodName := ⟨"DocumentChipModel", "prove", "(JJJJ)J"⟩
abbrev dn_c_Mod_command : ByteArray := prog_12_method_33_code
def dn_y_Mod_command : MethodName := ⟨"DocumentChipModel", "command", "(IJJ)I"⟩
abbrev dn_c_Mod_answer : ByteArray := prog_12_method_34_code
def dn_y_Mod_answer : MethodName := ⟨"DocumentChipModel", "answer", "(I)J"⟩
abbrev dn_c_Mod_needed : ByteArray := prog_12_method_35_code
def dn_y_Mod_needed : MethodName := ⟨"DocumentChipModel", "needed", "(IJ)J"⟩
abbrev dn_c_Mod_hidden : ByteArray := prog_12_method_36_code
def dn_y_Mod_hidden : MethodName := ⟨"DocumentChipModel", "hidden", "(J)J"⟩
abbrev dn_c_Mod_chip : ByteArray := prog_12_method_37_code
def dn_y_Mod_chip : MethodName := ⟨"DocumentChipModel", "chip", "(I)I"⟩
abbrev dn_c_Mod_sendMail : ByteArray := prog_12_method_38_code
def dn_y_Mod_sendMail : MethodName := ⟨"DocumentChipModel", "sendMail", "(I)V"⟩
abbrev dn_c_Mod_proving : ByteArray := prog_12_method_39_code
def dn_y_Mod_proving : MethodName := ⟨"DocumentChipModel", "proving", "()I"⟩
abbrev dn_c_Mod_asked : ByteArray := prog_12_method_40_code
def dn_y_Mod_asked : MethodName := ⟨"DocumentChipModel", "asked", "(IJI)I"⟩
abbrev dn_c_Mod_fetched : ByteArray := prog_12_method_41_code
def dn_y_Mod_fetched : MethodName := ⟨"DocumentChipModel", "fetched", "(I)I"⟩
abbrev dn_c_Mod_digestGot : ByteArray := prog_12_method_42_code
def dn_y_Mod_digestGot : MethodName := ⟨"DocumentChipModel", "digestGot", "(II)J"⟩
abbrev dn_c_Mod_power : ByteArray := prog_12_method_43_code
def dn_y_Mod_power : MethodName := ⟨"DocumentChipModel", "power", "(JII)J"⟩
abbrev dn_c_Mod_signature : ByteArray := prog_12_method_44_code
def dn_y_Mod_signature : MethodName := ⟨"DocumentChipModel", "signature", "()I"⟩
abbrev dn_c_Mod_judged : ByteArray := prog_12_method_45_code
def dn_y_Mod_judged : MethodName := ⟨"DocumentChipModel", "judged", "()I"⟩
abbrev dn_c_Mod_result : ByteArray := prog_12_method_46_code
def dn_y_Mod_result : MethodName := ⟨"DocumentChipModel", "result", "()I"⟩
abbrev dn_c_Mod_inspect : ByteArray := prog_12_method_47_code
def dn_y_Mod_inspect : MethodName := ⟨"DocumentChipModel", "inspect", "()I"⟩
abbrev dn_c_Mod_messages : ByteArray := prog_12_method_48_code
def dn_y_Mod_messages : MethodName := ⟨"DocumentChipModel", "messages", "()I"⟩
abbrev dn_c_Mod_held : ByteArray := prog_12_method_49_code
def dn_y_Mod_held : MethodName := ⟨"DocumentChipModel", "held", "(II)J"⟩
abbrev dn_c_Law_cell : ByteArray := method_2_code
def dn_y_Law_cell : MethodName := ⟨"DocumentChipLaw", "cell", "([II)I"⟩
abbrev dn_c_Law_load : ByteArray := method_3_code
def dn_y_Law_load : MethodName := ⟨"DocumentChipLaw", "load", "(LDocumentChip;IJ[J)I"⟩
abbrev dn_c_Law_print : ByteArray := method_4_code
def dn_y_Law_print : MethodName := ⟨"DocumentChipLaw", "print", "(LDocumentChip;III[J)I"⟩
abbrev dn_c_Law_trust : ByteArray := method_5_code
def dn_y_Law_trust : MethodName := ⟨"DocumentChipLaw", "trust", "(LDocumentChip;JII[J)I"⟩
abbrev dn_c_Law_change : ByteArray := method_6_code
def dn_y_Law_change : MethodName := ⟨"DocumentChipLaw", "change", "(LDocumentChip;IIJ[J)I"⟩
abbrev dn_c_Law_held : ByteArray := method_7_code
def dn_y_Law_held : MethodName := ⟨"DocumentChipLaw", "held", "(LDocumentChip;II[J)I"⟩
abbrev dn_c_Law_prove : ByteArray := method_8_code
def dn_y_Law_prove : MethodName := ⟨"DocumentChipLaw", "prove", "(LDocumentChip;JJJJ[J)I"⟩
abbrev dn_c_Law_command : ByteArray := method_9_code
def dn_y_Law_command : MethodName := ⟨"DocumentChipLaw", "command", "(LDocumentChip;IJJ[J)I"⟩
abbrev dn_c_Law_needed : ByteArray := method_10_code
def dn_y_Law_needed : MethodName := ⟨"DocumentChipLaw", "needed", "(LDocumentChip;IJ[J)I"⟩
abbrev dn_c_Law_hidden : ByteArray := method_11_code
def dn_y_Law_hidden : MethodName := ⟨"DocumentChipLaw", "hidden", "(LDocumentChip;J[J)I"⟩
abbrev dn_c_Law_law : ByteArray := code
def dn_y_Law_law : MethodName := ⟨"DocumentChipLaw", "law", "([I)Z"⟩

def RN : String := "NameMover"
def FN : u_T := fun k => match k with
  | 0 => ("NameMover", "store", "LNameMover$Store;", true)
  | 1 => ("NameMover", "buffer", "LNameMover$ByteRow;", true)
  | 2 => ("NameMover", "trial", "LNameMover$ByteRow;", true)
  | 3 => ("NameMover", "writer", "LNameMover$ClassWriter;", true)
  | 4 => ("NameMover", "trialWriter", "LNameMover$ClassWriter;", true)
  | _ => ("NameMover", "reader", "LNameMover$ClassReader;", true)
def tN : Nat → FieldType := fun k => match k with
  | 0 => .object "NameMover$Store"
  | 1 => .object "NameMover$ByteRow"
  | 2 => .object "NameMover$ByteRow"
  | 3 => .object "NameMover$ClassWriter"
  | 4 => .object "NameMover$ClassWriter"
  | _ => .object "NameMover$ClassReader"
theorem nN : ∀ a, a < 6 → ∀ b, b < 6 → a ≠ b → (FN a).2.1 ≠ (FN b).2.1 := by decide +kernel
theorem tN_ok : ∀ k, k < 6 → parseFieldDescriptor (FN k).2.2.1 = some (tN k) := by decide +kernel
def RS : String := "NameMover$Store"
def FS : u_T := fun k => match k with
  | 0 => ("NameMover$Store", "names", "[J", true)
  | 1 => ("NameMover$Store", "newNames", "[J", true)
  | 2 => ("NameMover$Store", "superclasses", "[I", true)
  | 3 => ("NameMover$Store", "libraries", "[Z", true)
  | 4 => ("NameMover$Store", "memberCounts", "[I", true)
  | 5 => ("NameMover$Store", "ancestors", "[I", true)
  | 6 => ("NameMover$Store", "memberNames", "[J", true)
  | 7 => ("NameMover$Store", "memberNewNames", "[J", true)
  | 8 => ("NameMover$Store", "descriptors", "[J", true)
  | 9 => ("NameMover$Store", "fixed", "[Z", true)
  | _ => ("NameMover$Store", "count", "I", false)
def tS : Nat → FieldType := fun k => match k with
  | 0 => .array .long
  | 1 => .array .long
  | 2 => .array .int
  | 3 => .array .boolean
  | 4 => .array .int
  | 5 => .array .int
  | 6 => .array .long
  | 7 => .array .long
  | 8 => .array .long
  | 9 => .array .boolean
  | _ => .int
theorem nS : ∀ a, a < 11 → ∀ b, b < 11 → a ≠ b → (FS a).2.1 ≠ (FS b).2.1 := by decide +kernel
theorem tS_ok : ∀ k, k < 11 → parseFieldDescriptor (FS k).2.2.1 = some (tS k) := by decide +kernel
def RB : String := "NameMover$ByteRow"
def FB : u_T := fun k => match k with
  | 0 => ("NameMover$ByteRow", "bytes", "[I", true)
  | _ => ("NameMover$ByteRow", "length", "I", false)
def tB : Nat → FieldType := fun k => match k with
  | 0 => .array .int
  | _ => .int
theorem nB : ∀ a, a < 2 → ∀ b, b < 2 → a ≠ b → (FB a).2.1 ≠ (FB b).2.1 := by decide +kernel
theorem tB_ok : ∀ k, k < 2 → parseFieldDescriptor (FB k).2.2.1 = some (tB k) := by decide +kernel
def RW : String := "NameMover$ClassWriter"
def FW : u_T := fun k => match k with
  | 0 => ("NameMover$ClassWriter", "store", "LNameMover$Store;", true)
  | 1 => ("NameMover$ClassWriter", "row", "LNameMover$ByteRow;", true)
  | 2 => ("NameMover$ClassWriter", "behindPool", "[I", true)
  | 3 => ("NameMover$ClassWriter", "waiting", "I", false)
  | 4 => ("NameMover$ClassWriter", "starts", "[I", true)
  | _ => ("NameMover$ClassWriter", "texts", "I", false)
def tW : Nat → FieldType := fun k => match k with
  | 0 => .object "NameMover$Store"
  | 1 => .object "NameMover$ByteRow"
  | 2 => .array .int
  | 3 => .int
  | 4 => .array .int
  | _ => .int
theorem nW : ∀ a, a < 6 → ∀ b, b < 6 → a ≠ b → (FW a).2.1 ≠ (FW b).2.1 := by decide +kernel
theorem tW_ok : ∀ k, k < 6 → parseFieldDescriptor (FW k).2.2.1 = some (tW k) := by decide +kernel
def RR : String := "NameMover$ClassReader"
def FR : u_T := fun k => match k with
  | 0 => ("NameMover$ClassReader", "store", "LNameMover$Store;", true)
  | 1 => ("NameMover$ClassReader", "row", "LNameMover$ByteRow;", true)
  | 2 => ("NameMover$ClassReader", "starts", "[I", true)
  | 3 => ("NameMover$ClassReader", "texts", "I", false)
  | _ => ("NameMover$ClassReader", "at", "I", false)
def tR : Nat → FieldType := fun k => match k with
  | 0 => .object "NameMover$Store"
  | 1 => .object "NameMover$ByteRow"
  | 2 => .array .int
  | 3 => .int
  | _ => .int
theorem nR : ∀ a, a < 5 → ∀ b, b < 5 → a ≠ b → (FR a).2.1 ≠ (FR b).2.1 := by decide +kernel
theorem tR_ok : ∀ k, k < 5 → parseFieldDescriptor (FR k).2.2.1 = some (tR k) := by decide +kernel
def RM : String := "NameMoverModel"
def FM : u_T := fun k => match k with
  | 0 => ("NameMoverModel", "thrown", "I", false)
  | 1 => ("NameMoverModel", "count", "I", false)
  | 2 => ("NameMoverModel", "names", "[J", true)
  | 3 => ("NameMoverModel", "fresh", "[J", true)
  | 4 => ("NameMoverModel", "above", "[I", true)
  | 5 => ("NameMoverModel", "library", "[Z", true)
  | 6 => ("NameMoverModel", "members", "[I", true)
  | 7 => ("NameMoverModel", "memberNames", "[J", true)
  | 8 => ("NameMoverModel", "memberFresh", "[J", true)
  | 9 => ("NameMoverModel", "descriptors", "[J", true)
  | 10 => ("NameMoverModel", "fixed", "[Z", true)
  | 11 => ("NameMoverModel", "marked", "[Z", true)
  | 12 => ("NameMoverModel", "buffer", "[I", true)
  | 13 => ("NameMoverModel", "size", "I", false)
  | 14 => ("NameMoverModel", "made", "[I", true)
  | 15 => ("NameMoverModel", "madeSize", "I", false)
  | 16 => ("NameMoverModel", "pool", "I", false)
  | 17 => ("NameMoverModel", "poolChars", "[I", true)
  | 18 => ("NameMoverModel", "poolSize", "[I", true)
  | 19 => ("NameMoverModel", "line", "[I", true)
  | 20 => ("NameMoverModel", "lineSize", "I", false)
  | 21 => ("NameMoverModel", "used", "[I", true)
  | _ => ("NameMoverModel", "at", "I", false)
def tM : Nat → FieldType := fun k => match k with
  | 0 => .int
  | 1 => .int
  | 2 => .array .long
  | 3 => .array .long
  | 4 => .array .int
  | 5 => .array .boolean
  | 6 => .array .int
  | 7 => .array .long
  | 8 => .array .long
  | 9 => .array .long
  | 10 => .array .boolean
  | 11 => .array .boolean
  | 12 => .array .int
  | 13 => .int
  | 14 => .array .int
  | 15 => .int
  | 16 => .int
  | 17 => .array .int
  | 18 => .array .int
  | 19 => .array .int
  | 20 => .int
  | 21 => .array .int
  | _ => .int
theorem nM : ∀ a, a < 23 → ∀ b, b < 23 → a ≠ b → (FM a).2.1 ≠ (FM b).2.1 := by decide +kernel
theorem tM_ok : ∀ k, k < 23 → parseFieldDescriptor (FM k).2.2.1 = some (tM k) := by decide +kernel
abbrev xCl : List vw_C := [(RN, FN, 6), (RS, FS, 11), (RB, FB, 2), (RW, FW, 6), (RR, FR, 5), (RM, FM, 23)]
def xgb (w : Cond) : Bool := goodWord w || xnw w
theorem xgb_gw {w : Cond} (h : xgb w = true) : xgw w := by
  unfold xgb at h
  rw [Bool.or_eq_true] at h
  rcases h with h | h
  · exact Or.inl (good_of_word h)
  · exact Or.inr h
/-- the words that stay true: every method's words -/
def xtt : List Cond := lw_tbl.filter xgb
theorem xtt_in {w : Cond} (h : w ∈ lw_tbl) (hb : xgb w = true) : w ∈ xtt := List.mem_filter.mpr ⟨h, hb⟩
theorem xtt_t {w : Cond} {i : Nat} (h : tables_1[i]? = some w) (hb : xgb w = true) : w ∈ xtt := xtt_in (List.mem_append_right _ (List.mem_of_getElem? h)) hb
theorem xtt_s {w : Cond} {i : Nat} (h : (k2_sels lw_privs)[i]? = some w) (hb : xgb w = true) : w ∈ xtt := xtt_in (List.mem_append_left _ (List.mem_of_getElem? h)) hb
theorem xtt_good {c c' : Cond} (hc : c' ∈ xtt) : xGood (c :: xtt) (c' :: xtt) := fun w hw => by
  have h : w ∈ xtt := by
    rcases List.mem_cons.mp hw with rfl | h
    · exact hc
    · exact h
  exact ⟨List.mem_cons_of_mem _ h, xgb_gw (List.mem_filter.mp h).2⟩
theorem tc {c w : Cond} (h : w ∈ xtt) : w ∈ c :: xtt := List.mem_cons_of_mem _ h

def RN : String := "NameMover"
def FN : u_T := fun k => match k with
  | 0 => ("NameMover", "store", "LNameMover$Store;", true)
  | 1 => ("NameMover", "buffer", "LNameMover$ByteRow;", true)
  | 2 => ("NameMover", "trial", "LNameMover$ByteRow;", true)
  | 3 => ("NameMover", "writer", "LNameMover$ClassWriter;", true)
  | 4 => ("NameMover", "trialWriter", "LNameMover$ClassWriter;", true)
  | _ => ("NameMover", "reader", "LNameMover$ClassReader;", true)
def tN : Nat → FieldType := fun k => match k with
  | 0 => .object "NameMover$Store"
  | 1 => .object "NameMover$ByteRow"
  | 2 => .object "NameMover$ByteRow"
  | 3 => .object "NameMover$ClassWriter"
  | 4 => .object "NameMover$ClassWriter"
  | _ => .object "NameMover$ClassReader"
theorem nN : ∀ a, a < 6 → ∀ b, b < 6 → a ≠ b → (FN a).2.1 ≠ (FN b).2.1 := by decide +kernel
theorem tN_ok : ∀ k, k < 6 → parseFieldDescriptor (FN k).2.2.1 = some (tN k) := by decide +kernel
def RS : String := "NameMover$Store"
def FS : u_T := fun k => match k with
  | 0 => ("NameMover$Store", "names", "[J", true)
  | 1 => ("NameMover$Store", "newNames", "[J", true)
  | 2 => ("NameMover$Store", "superclasses", "[I", true)
  | 3 => ("NameMover$Store", "libraries", "[Z", true)
  | 4 => ("NameMover$Store", "memberCounts", "[I", true)
  | 5 => ("NameMover$Store", "ancestors", "[I", true)
  | 6 => ("NameMover$Store", "memberNames", "[J", true)
  | 7 => ("NameMover$Store", "memberNewNames", "[J", true)
  | 8 => ("NameMover$Store", "descriptors", "[J", true)
  | 9 => ("NameMover$Store", "fixed", "[Z", true)
  | _ => ("NameMover$Store", "count", "I", false)
def tS : Nat → FieldType := fun k => match k with
  | 0 => .array .long
  | 1 => .array .long
  | 2 => .array .int
  | 3 => .array .boolean
  | 4 => .array .int
  | 5 => .array .int
  | 6 => .array .long
  | 7 => .array .long
  | 8 => .array .long
  | 9 => .array .boolean
  | _ => .int
theorem nS : ∀ a, a < 11 → ∀ b, b < 11 → a ≠ b → (FS a).2.1 ≠ (FS b).2.1 := by decide +kernel
theorem tS_ok : ∀ k, k < 11 → parseFieldDescriptor (FS k).2.2.1 = some (tS k) := by decide +kernel
def RB : String := "NameMover$ByteRow"
def FB : u_T := fun k => match k with
  | 0 => ("NameMover$ByteRow", "bytes", "[I", true)
  | _ => ("NameMover$ByteRow", "length", "I", false)
def tB : Nat → FieldType := fun k => match k with
  | 0 => .array .int
  | _ => .int
theorem nB : ∀ a, a < 2 → ∀ b, b < 2 → a ≠ b → (FB a).2.1 ≠ (FB b).2.1 := by decide +kernel
theorem tB_ok : ∀ k, k < 2 → parseFieldDescriptor (FB k).2.2.1 = some (tB k) := by decide +kernel
def RW : String := "NameMover$ClassWriter"
def FW : u_T := fun k => match k with
  | 0 => ("NameMover$ClassWriter", "store", "LNameMover$Store;", true)
  | 1 => ("NameMover$ClassWriter", "row", "LNameMover$ByteRow;", true)
  | 2 => ("NameMover$ClassWriter", "behindPool", "[I", true)
  | 3 => ("NameMover$ClassWriter", "waiting", "I", false)
  | 4 => ("NameMover$ClassWriter", "starts", "[I", true)
  | _ => ("NameMover$ClassWriter", "texts", "I", false)
def tW : Nat → FieldType := fun k => match k with
  | 0 => .object "NameMover$Store"
  | 1 => .object "NameMover$ByteRow"
  | 2 => .array .int
  | 3 => .int
  | 4 => .array .int
  | _ => .int
theorem nW : ∀ a, a < 6 → ∀ b, b < 6 → a ≠ b → (FW a).2.1 ≠ (FW b).2.1 := by decide +kernel
theorem tW_ok : ∀ k, k < 6 → parseFieldDescriptor (FW k).2.2.1 = some (tW k) := by decide +kernel
def RR : String := "NameMover$ClassReader"
def FR : u_T := fun k => match k with
  | 0 => ("NameMover$ClassReader", "store", "LNameMover$Store;", true)
  | 1 => ("NameMover$ClassReader", "row", "LNameMover$ByteRow;", true)
  | 2 => ("NameMover$ClassReader", "starts", "[I", true)
  | 3 => ("NameMover$ClassReader", "texts", "I", false)
  | _ => ("NameMover$ClassReader", "at", "I", false)
def tR : Nat → FieldType := fun k => match k with
  | 0 => .object "NameMover$Store"
  | 1 => .object "NameMover$ByteRow"
  | 2 => .array .int
  | 3 => .int
  | _ => .int
theorem nR : ∀ a, a < 5 → ∀ b, b < 5 → a ≠ b → (FR a).2.1 ≠ (FR b).2.1 := by decide +kernel
theorem tR_ok : ∀ k, k < 5 → parseFieldDescriptor (FR k).2.2.1 = some (tR k) := by decide +kernel
def RM : String := "NameMoverModel"
def FM : u_T := fun k => match k with
  | 0 => ("NameMoverModel", "thrown", "I", false)
  | 1 => ("NameMoverModel", "count", "I", false)
  | 2 => ("NameMoverModel", "names", "[J", true)
  | 3 => ("NameMoverModel", "fresh", "[J", true)
  | 4 => ("NameMoverModel", "above", "[I", true)
  | 5 => ("NameMoverModel", "library", "[Z", true)
  | 6 => ("NameMoverModel", "members", "[I", true)
  | 7 => ("NameMoverModel", "memberNames", "[J", true)
  | 8 => ("NameMoverModel", "memberFresh", "[J", true)
  | 9 => ("NameMoverModel", "descriptors", "[J", true)
  | 10 => ("NameMoverModel", "fixed", "[Z", true)
  | 11 => ("NameMoverModel", "marked", "[Z", true)
  | 12 => ("NameMoverModel", "buffer", "[I", true)
  | 13 => ("NameMoverModel", "size", "I", false)
  | 14 => ("NameMoverModel", "made", "[I", true)
  | 15 => ("NameMoverModel", "madeSize", "I", false)
  | 16 => ("NameMoverModel", "pool", "I", false)
  | 17 => ("NameMoverModel", "poolChars", "[I", true)
  | 18 => ("NameMoverModel", "poolSize", "[I", true)
  | 19 => ("NameMoverModel", "line", "[I", true)
  | 20 => ("NameMoverModel", "lineSize", "I", false)
  | 21 => ("NameMoverModel", "used", "[I", true)
  | _ => ("NameMoverModel", "at", "I", false)
def tM : Nat → FieldType := fun k => match k with
  | 0 => .int
  | 1 => .int
  | 2 => .array .long
  | 3 => .array .long
  | 4 => .array .int
  | 5 => .array .boolean
  | 6 => .array .int
  | 7 => .array .long
  | 8 => .array .long
  | 9 => .array .long
  | 10 => .array .boolean
  | 11 => .array .boolean
  | 12 => .array .int
  | 13 => .int
  | 14 => .array .int
  | 15 => .int
  | 16 => .int
  | 17 => .array .int
  | 18 => .array .int
  | 19 => .array .int
  | 20 => .int
  | 21 => .array .int
  | _ => .int
theorem nM : ∀ a, a < 23 → ∀ b, b < 23 → a ≠ b → (FM a).2.1 ≠ (FM b).2.1 := by decide +kernel
theorem tM_ok : ∀ k, k < 23 → parseFieldDescriptor (FM k).2.2.1 = some (tM k) := by decide +kernel
abbrev xCl : List vw_C := [(RN, FN, 6), (RS, FS, 11), (RB, FB, 2), (RW, FW, 6), (RR, FR, 5), (RM, FM, 23)]
def xgb (w : Cond) : Bool := goodWord w || xnw w
theorem xgb_gw {w : Cond} (h : xgb w = true) : xgw w := by
  unfold xgb at h
  rw [Bool.or_eq_true] at h
  rcases h with h | h
  · exact Or.inl (good_of_word h)
  · exact Or.inr h
/-- the words that stay true: every method's words -/
def xtt : List Cond := lw_tbl.filter xgb
theorem xtt_in {w : Cond} (h : w ∈ lw_tbl) (hb : xgb w = true) : w ∈ xtt := List.mem_filter.mpr ⟨h, hb⟩
theorem xtt_t {w : Cond} {i : Nat} (h : tables_1[i]? = some w) (hb : xgb w = true) : w ∈ xtt := xtt_in (List.mem_append_right _ (List.mem_of_getElem? h)) hb
theorem xtt_s {w : Cond} {i : Nat} (h : (k2_sels lw_privs)[i]? = some w) (hb : xgb w = true) : w ∈ xtt := xtt_in (List.mem_append_left _ (List.mem_of_getElem? h)) hb
theorem xtt_good {c c' : Cond} (hc : c' ∈ xtt) : xGood (c :: xtt) (c' :: xtt) := fun w hw => by
  have h : w ∈ xtt := by
    rcases List.mem_cons.mp hw with rfl | h
    · exact hc
    · exact h
  exact ⟨List.mem_cons_of_mem _ h, xgb_gw (List.mem_filter.mp h).2⟩
theorem tc {c w : Cond} (h : w ∈ xtt) : w ∈ c :: xtt := List.mem_cons_of_mem _ h
theorem tw_64 : (Cond.laysFinal "NameMover$Store" "NameMover$Store" "names" "[J") ∈ xtt := xtt_t (i := 64) (by decide +kernel) (by decide +kernel)
theorem tw_66 : (Cond.laysFinal "NameMover$Store" "NameMover$Store" "newNames" "[J") ∈ xtt := xtt_t (i := 66) (by decide +kernel) (by decide +kernel)
theorem tw_68 : (Cond.laysFinal "NameMover$Store" "NameMover$Store" "superclasses" "[I") ∈ xtt := xtt_t (i := 68) (by decide +kernel) (by decide +kernel)
theorem tw_70 : (Cond.laysFinal "NameMover$Store" "NameMover$Store" "libraries" "[Z") ∈ xtt := xtt_t (i := 70) (by decide +kernel) (by decide +kernel)
theorem tw_72 : (Cond.laysFinal "NameMover$Store" "NameMover$Store" "memberCounts" "[I") ∈ xtt := xtt_t (i := 72) (by decide +kernel) (by decide +kernel)
theorem tw_74 : (Cond.laysFinal "NameMover$Store" "NameMover$Store" "ancestors" "[I") ∈ xtt := xtt_t (i := 74) (by decide +kernel) (by decide +kernel)
theorem tw_76 : (Cond.laysFinal "NameMover$Store" "NameMover$Store" "memberNames" "[J") ∈ xtt := xtt_t (i := 76) (by decide +kernel) (by decide +kernel)
theorem tw_78 : (Cond.laysFinal "NameMover$Store" "NameMover$Store" "memberNewNames" "[J") ∈ xtt := xtt_t (i := 78) (by decide +kernel) (by decide +kernel)
theorem tw_80 : (Cond.laysFinal "NameMover$Store" "NameMover$Store" "descriptors" "[J") ∈ xtt := xtt_t (i := 80) (by decide +kernel) (by decide +kernel)
theorem tw_82 : (Cond.laysFinal "NameMover$Store" "NameMover$Store" "fixed" "[Z") ∈ xtt := xtt_t (i := 82) (by decide +kernel) (by decide +kernel)
theorem tw_84 : (Cond.lays "NameMover$Store" "NameMover$Store" "count" "I") ∈ xtt := xtt_t (i := 84) (by decide +kernel) (by decide +kernel)
theorem tw_98 : (Cond.laysFinal "NameMover$ByteRow" "NameMover$ByteRow" "bytes" "[I") ∈ xtt := xtt_t (i := 98) (by decide +kernel) (by decide +kernel)
theorem tw_100 : (Cond.lays "NameMover$ByteRow" "NameMover$ByteRow" "length" "I") ∈ xtt := xtt_t (i := 100) (by decide +kernel) (by decide +kernel)
theorem tw_115 : (Cond.laysFinal "NameMover$ClassWriter" "NameMover$ClassWriter" "store" "LNameMover$Store;") ∈ xtt := xtt_t (i := 115) (by decide +kernel) (by decide +kernel)
theorem tw_117 : (Cond.laysFinal "NameMover$ClassWriter" "NameMover$ClassWriter" "row" "LNameMover$ByteRow;") ∈ xtt := xtt_t (i := 117) (by decide +kernel) (by decide +kernel)
theorem tw_119 : (Cond.laysFinal "NameMover$ClassWriter" "NameMover$ClassWriter" "behindPool" "[I") ∈ xtt := xtt_t (i := 119) (by decide +kernel) (by decide +kernel)
theorem tw_121 : (Cond.lays "NameMover$ClassWriter" "NameMover$ClassWriter" "waiting" "I") ∈ xtt := xtt_t (i := 121) (by decide +kernel) (by decide +kernel)
theorem tw_123 : (Cond.laysFinal "NameMover$ClassWriter" "NameMover$ClassWriter" "starts" "[I") ∈ xtt := xtt_t (i := 123) (by decide +kernel) (by decide +kernel)
theorem tw_125 : (Cond.lays "NameMover$ClassWriter" "NameMover$ClassWriter" "texts" "I") ∈ xtt := xtt_t (i := 125) (by decide +kernel) (by decide +kernel)
theorem tw_139 : (Cond.laysFinal "NameMover$ClassReader" "NameMover$ClassReader" "store" "LNameMover$Store;") ∈ xtt := xtt_t (i := 139) (by decide +kernel) (by decide +kernel)
theorem tw_141 : (Cond.laysFinal "NameMover$ClassReader" "NameMover$ClassReader" "row" "LNameMover$ByteRow;") ∈ xtt := xtt_t (i := 141) (by decide +kernel) (by decide +kernel)
theorem tw_143 : (Cond.laysFinal "NameMover$ClassReader" "NameMover$ClassReader" "starts" "[I") ∈ xtt := xtt_t (i := 143) (by decide +kernel) (by decide +kernel)
theorem tw_145 : (Cond.lays "NameMover$ClassReader" "NameMover$ClassReader" "texts" "I") ∈ xtt := xtt_t (i := 145) (by decide +kernel) (by decide +kernel)
theorem tw_147 : (Cond.lays "NameMover$ClassReader" "NameMover$ClassReader" "at" "I") ∈ xtt := xtt_t (i := 147) (by decide +kernel) (by decide +kernel)
theorem tw_156 : (Cond.laysFinal "NameMover" "NameMover" "store" "LNameMover$Store;") ∈ xtt := xtt_t (i := 156) (by decide +kernel) (by decide +kernel)
theorem tw_158 : (Cond.laysFinal "NameMover" "NameMover" "buffer" "LNameMover$ByteRow;") ∈ xtt := xtt_t (i := 158) (by decide +kernel) (by decide +kernel)
theorem tw_160 : (Cond.laysFinal "NameMover" "NameMover" "trial" "LNameMover$ByteRow;") ∈ xtt := xtt_t (i := 160) (by decide +kernel) (by decide +kernel)
theorem tw_162 : (Cond.laysFinal "NameMover" "NameMover" "writer" "LNameMover$ClassWriter;") ∈ xtt := xtt_t (i := 162) (by decide +kernel) (by decide +kernel)
theorem tw_164 : (Cond.laysFinal "NameMover" "NameMover" "trialWriter" "LNameMover$ClassWriter;") ∈ xtt := xtt_t (i := 164) (by decide +kernel) (by decide +kernel)
theorem tw_166 : (Cond.laysFinal "NameMover" "NameMover" "reader" "LNameMover$ClassReader;") ∈ xtt := xtt_t (i := 166) (by decide +kernel) (by decide +kernel)
theorem tw_789 : (Cond.lays "NameMoverModel" "NameMoverModel" "thrown" "I") ∈ xtt := xtt_t (i := 789) (by decide +kernel) (by decide +kernel)
theorem tw_791 : (Cond.lays "NameMoverModel" "NameMoverModel" "count" "I") ∈ xtt := xtt_t (i := 791) (by decide +kernel) (by decide +kernel)
theorem tw_793 : (Cond.laysFinal "NameMoverModel" "NameMoverModel" "names" "[J") ∈ xtt := xtt_t (i := 793) (by decide +kernel) (by decide +kernel)
theorem tw_795 : (Cond.laysFinal "NameMoverModel" "NameMoverModel" "fresh" "[J") ∈ xtt := xtt_t (i := 795) (by decide +kernel) (by decide +kernel)
theorem tw_797 : (Cond.laysFinal "NameMoverModel" "NameMoverModel" "above" "[I") ∈ xtt := xtt_t (i := 797) (by decide +kernel) (by decide +kernel)
theorem tw_799 : (Cond.laysFinal "NameMoverModel" "NameMoverModel" "library" "[Z") ∈ xtt := xtt_t (i := 799) (by decide +kernel) (by decide +kernel)
theorem tw_801 : (Cond.laysFinal "NameMoverModel" "NameMoverModel" "members" "[I") ∈ xtt := xtt_t (i := 801) (by decide +kernel) (by decide +kernel)
theorem tw_803 : (Cond.laysFinal "NameMoverModel" "NameMoverModel" "memberNames" "[J") ∈ xtt := xtt_t (i := 803) (by decide +kernel) (by decide +kernel)
theorem tw_805 : (Cond.laysFinal "NameMoverModel" "NameMoverModel" "memberFresh" "[J") ∈ xtt := xtt_t (i := 805) (by decide +kernel) (by decide +kernel)
theorem tw_807 : (Cond.laysFinal "NameMoverModel" "NameMoverModel" "descriptors" "[J") ∈ xtt := xtt_t (i := 807) (by decide +kernel) (by decide +kernel)
theorem tw_809 : (Cond.laysFinal "NameMoverModel" "NameMoverModel" "fixed" "[Z") ∈ xtt := xtt_t (i := 809) (by decide +kernel) (by decide +kernel)
theorem tw_811 : (Cond.laysFinal "NameMoverModel" "NameMoverModel" "marked" "[Z") ∈ xtt := xtt_t (i := 811) (by decide +kernel) (by decide +kernel)
theorem tw_813 : (Cond.laysFinal "NameMoverModel" "NameMoverModel" "buffer" "[I") ∈ xtt := xtt_t (i := 813) (by decide +kernel) (by decide +kernel)
theorem tw_815 : (Cond.lays "NameMoverModel" "NameMoverModel" "size" "I") ∈ xtt := xtt_t (i := 815) (by decide +kernel) (by decide +kernel)
theorem tw_817 : (Cond.laysFinal "NameMoverModel" "NameMoverModel" "made" "[I") ∈ xtt := xtt_t (i := 817) (by decide +kernel) (by decide +kernel)
theorem tw_819 : (Cond.lays "NameMoverModel" "NameMoverModel" "madeSize" "I") ∈ xtt := xtt_t (i := 819) (by decide +kernel) (by decide +kernel)
theorem tw_821 : (Cond.lays "NameMoverModel" "NameMoverModel" "pool" "I") ∈ xtt := xtt_t (i := 821) (by decide +kernel) (by decide +kernel)
theorem tw_823 : (Cond.laysFinal "NameMoverModel" "NameMoverModel" "poolChars" "[I") ∈ xtt := xtt_t (i := 823) (by decide +kernel) (by decide +kernel)
theorem tw_825 : (Cond.laysFinal "NameMoverModel" "NameMoverModel" "poolSize" "[I") ∈ xtt := xtt_t (i := 825) (by decide +kernel) (by decide +kernel)
theorem tw_827 : (Cond.laysFinal "NameMoverModel" "NameMoverModel" "line" "[I") ∈ xtt := xtt_t (i := 827) (by decide +kernel) (by decide +kernel)
theorem tw_829 : (Cond.lays "NameMoverModel" "NameMoverModel" "lineSize" "I") ∈ xtt := xtt_t (i := 829) (by decide +kernel) (by decide +kernel)
theorem tw_831 : (Cond.laysFinal "NameMoverModel" "NameMoverModel" "used" "[I") ∈ xtt := xtt_t (i := 831) (by decide +kernel) (by decide +kernel)
theorem tw_833 : (Cond.lays "NameMoverModel" "NameMoverModel" "at" "I") ∈ xtt := xtt_t (i := 833) (by decide +kernel) (by decide +kernel)
theorem tin_N {c : Cond} : ∀ w ∈ u_ws RN FN 6, w ∈ c :: xtt := fun w hw => tc ((show ∀ w ∈ u_ws RN FN 6, w ∈ xtt from List.forall_mem_cons.mpr ⟨tw_156, List.forall_mem_cons.mpr ⟨tw_158, List.forall_mem_cons.mpr ⟨tw_160, List.forall_mem_cons.mpr ⟨tw_162, List.forall_mem_cons.mpr ⟨tw_164, List.forall_mem_cons.mpr ⟨tw_166, fun _ h => absurd h List.not_mem_nil⟩⟩⟩⟩⟩⟩) w hw)
theorem tin_S {c : Cond} : ∀ w ∈ u_ws RS FS 11, w ∈ c :: xtt := fun w hw => tc ((show ∀ w ∈ u_ws RS FS 11, w ∈ xtt from List.forall_mem_cons.mpr ⟨tw_64, List.forall_mem_cons.mpr ⟨tw_66, List.forall_mem_cons.mpr ⟨tw_68, List.forall_mem_cons.mpr ⟨tw_70, List.forall_mem_cons.mpr ⟨tw_72, List.forall_mem_cons.mpr ⟨tw_74, List.forall_mem_cons.mpr ⟨tw_76, List.forall_mem_cons.mpr ⟨tw_78, List.forall_mem_cons.mpr ⟨tw_80, List.forall_mem_cons.mpr ⟨tw_82, List.forall_mem_cons.mpr ⟨tw_84, fun _ h => absurd h List.not_mem_nil⟩⟩⟩⟩⟩⟩⟩⟩⟩⟩⟩) w hw)
theorem tin_B {c : Cond} : ∀ w ∈ u_ws RB FB 2, w ∈ c :: xtt := fun w hw => tc ((show ∀ w ∈ u_ws RB FB 2, w ∈ xtt from List.forall_mem_cons.mpr ⟨tw_98, List.forall_mem_cons.mpr ⟨tw_100, fun _ h => absurd h List.not_mem_nil⟩⟩) w hw)
theorem tin_W {c : Cond} : ∀ w ∈ u_ws RW FW 6, w ∈ c :: xtt := fun w hw => tc ((show ∀ w ∈ u_ws RW FW 6, w ∈ xtt from List.forall_mem_cons.mpr ⟨tw_115, List.forall_mem_cons.mpr ⟨tw_117, List.forall_mem_cons.mpr ⟨tw_119, List.forall_mem_cons.mpr ⟨tw_121, List.forall_mem_cons.mpr ⟨tw_123, List.forall_mem_cons.mpr ⟨tw_125, fun _ h => absurd h List.not_mem_nil⟩⟩⟩⟩⟩⟩) w hw)
theorem tin_R {c : Cond} : ∀ w ∈ u_ws RR FR 5, w ∈ c :: xtt := fun w hw => tc ((show ∀ w ∈ u_ws RR FR 5, w ∈ xtt from List.forall_mem_cons.mpr ⟨tw_139, List.forall_mem_cons.mpr ⟨tw_141, List.forall_mem_cons.mpr ⟨tw_143, List.forall_mem_cons.mpr ⟨tw_145, List.forall_mem_cons.mpr ⟨tw_147, fun _ h => absurd h List.not_mem_nil⟩⟩⟩⟩⟩) w hw)
theorem tin_M {c : Cond} : ∀ w ∈ u_ws RM FM 23, w ∈ c :: xtt := fun w hw => tc ((show ∀ w ∈ u_ws RM FM 23, w ∈ xtt from List.forall_mem_cons.mpr ⟨tw_789, List.forall_mem_cons.mpr ⟨tw_791, List.forall_mem_cons.mpr ⟨tw_793, List.forall_mem_cons.mpr ⟨tw_795, List.forall_mem_cons.mpr ⟨tw_797, List.forall_mem_cons.mpr ⟨tw_799, List.forall_mem_cons.mpr ⟨tw_801, List.forall_mem_cons.mpr ⟨tw_803, List.forall_mem_cons.mpr ⟨tw_805, List.forall_mem_cons.mpr ⟨tw_807, List.forall_mem_cons.mpr ⟨tw_809, List.forall_mem_cons.mpr ⟨tw_811, List.forall_mem_cons.mpr ⟨tw_813, List.forall_mem_cons.mpr ⟨tw_815, List.forall_mem_cons.mpr ⟨tw_817, List.forall_mem_cons.mpr ⟨tw_819, List.forall_mem_cons.mpr ⟨tw_821, List.forall_mem_cons.mpr ⟨tw_823, List.forall_mem_cons.mpr ⟨tw_825, List.forall_mem_cons.mpr ⟨tw_827, List.forall_mem_cons.mpr ⟨tw_829, List.forall_mem_cons.mpr ⟨tw_831, List.forall_mem_cons.mpr ⟨tw_833, fun _ h => absurd h List.not_mem_nil⟩⟩⟩⟩⟩⟩⟩⟩⟩⟩⟩⟩⟩⟩⟩⟩⟩⟩⟩⟩⟩⟩⟩) w hw)

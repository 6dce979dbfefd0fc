theorem q_l02 : 0 < 2 := by decide
theorem q_l12 : 1 < 2 := by decide
theorem q_l04 : 0 < 4 := by decide
theorem q_l14 : 1 < 4 := by decide
theorem q_l24 : 2 < 4 := by decide
theorem q_l34 : 3 < 4 := by decide
def q_T0 : u_T := fun k => match k with
  | 0 => ("FontOutlines$Bytes", "row", "[B", false)
  | _ => ("FontOutlines$Bytes", "size", "I", false)
def q_t0 : Nat → FieldType := fun k => match k with
  | 0 => (.array .byte)
  | _ => .int
def q_T1 : u_T := fun k => match k with
  | 0 => ("FontOutlines$CharacterMap", "cmap", "LFontOutlines$Table;", true)
  | 1 => ("FontOutlines$CharacterMap", "ofGroups", "Z", false)
  | 2 => ("FontOutlines$CharacterMap", "place", "I", false)
  | _ => ("FontOutlines$CharacterMap", "many", "I", false)
def q_t1 : Nat → FieldType := fun k => match k with
  | 0 => (.object "FontOutlines$Table")
  | 1 => .boolean
  | 2 => .int
  | _ => .int
def q_T2 : u_T := fun k => match k with
  | 0 => ("FontOutlines$Cursor", "file", "LFontOutlines$Bytes;", false)
  | 1 => ("FontOutlines$Cursor", "place", "I", false)
  | 2 => ("FontOutlines$Cursor", "end", "I", false)
  | _ => ("FontOutlines$Cursor", "ranOut", "Z", false)
def q_t2 : Nat → FieldType := fun k => match k with
  | 0 => (.object "FontOutlines$Bytes")
  | 1 => .int
  | 2 => .int
  | _ => .boolean
def q_T3 : u_T := fun k => match k with
  | 0 => ("FontOutlines$Font", "bytes", "LFontOutlines$Bytes;", true)
  | 1 => ("FontOutlines$Font", "whole", "LFontOutlines$Table;", true)
  | 2 => ("FontOutlines$Font", "summed", "LFontOutlines$Table;", true)
  | 3 => ("FontOutlines$Font", "cmap", "LFontOutlines$Table;", true)
  | 4 => ("FontOutlines$Font", "glyf", "LFontOutlines$Table;", true)
  | 5 => ("FontOutlines$Font", "head", "LFontOutlines$Table;", true)
  | 6 => ("FontOutlines$Font", "hhea", "LFontOutlines$Table;", true)
  | 7 => ("FontOutlines$Font", "hmtx", "LFontOutlines$Table;", true)
  | 8 => ("FontOutlines$Font", "loca", "LFontOutlines$Table;", true)
  | 9 => ("FontOutlines$Font", "maxp", "LFontOutlines$Table;", true)
  | 10 => ("FontOutlines$Font", "map", "LFontOutlines$CharacterMap;", true)
  | 11 => ("FontOutlines$Font", "em", "I", false)
  | 12 => ("FontOutlines$Font", "glyphs", "I", false)
  | 13 => ("FontOutlines$Font", "widths", "I", false)
  | _ => ("FontOutlines$Font", "longPlaces", "Z", false)
def q_t3 : Nat → FieldType := fun k => match k with
  | 0 => (.object "FontOutlines$Bytes")
  | 1 => (.object "FontOutlines$Table")
  | 2 => (.object "FontOutlines$Table")
  | 3 => (.object "FontOutlines$Table")
  | 4 => (.object "FontOutlines$Table")
  | 5 => (.object "FontOutlines$Table")
  | 6 => (.object "FontOutlines$Table")
  | 7 => (.object "FontOutlines$Table")
  | 8 => (.object "FontOutlines$Table")
  | 9 => (.object "FontOutlines$Table")
  | 10 => (.object "FontOutlines$CharacterMap")
  | 11 => .int
  | 12 => .int
  | 13 => .int
  | _ => .boolean
def q_T4 : u_T := fun k => match k with
  | 0 => ("FontOutlines$Outline", "x", "[I", true)
  | 1 => ("FontOutlines$Outline", "y", "[I", true)
  | 2 => ("FontOutlines$Outline", "flags", "[I", true)
  | 3 => ("FontOutlines$Outline", "contour", "[I", true)
  | 4 => ("FontOutlines$Outline", "data", "LFontOutlines$Cursor;", true)
  | 5 => ("FontOutlines$Outline", "parts", "[LFontOutlines$Part;", true)
  | 6 => ("FontOutlines$Outline", "points", "I", false)
  | 7 => ("FontOutlines$Outline", "contours", "I", false)
  | 8 => ("FontOutlines$Outline", "partsRead", "I", false)
  | _ => ("FontOutlines$Outline", "widthGlyph", "I", false)
def q_t4 : Nat → FieldType := fun k => match k with
  | 0 => (.array .int)
  | 1 => (.array .int)
  | 2 => (.array .int)
  | 3 => (.array .int)
  | 4 => (.object "FontOutlines$Cursor")
  | 5 => (.array (.object "FontOutlines$Part"))
  | 6 => .int
  | 7 => .int
  | 8 => .int
  | _ => .int
def q_T5 : u_T := fun k => match k with
  | 0 => ("FontOutlines$Part", "data", "LFontOutlines$Cursor;", true)
  | 1 => ("FontOutlines$Part", "flags", "I", false)
  | 2 => ("FontOutlines$Part", "child", "I", false)
  | 3 => ("FontOutlines$Part", "p", "I", false)
  | 4 => ("FontOutlines$Part", "q", "I", false)
  | 5 => ("FontOutlines$Part", "a", "I", false)
  | 6 => ("FontOutlines$Part", "b", "I", false)
  | 7 => ("FontOutlines$Part", "c", "I", false)
  | _ => ("FontOutlines$Part", "d", "I", false)
def q_t5 : Nat → FieldType := fun k => match k with
  | 0 => (.object "FontOutlines$Cursor")
  | 1 => .int
  | 2 => .int
  | 3 => .int
  | 4 => .int
  | 5 => .int
  | 6 => .int
  | 7 => .int
  | _ => .int
def q_T6 : u_T := fun k => match k with
  | 0 => ("FontOutlines$Table", "file", "LFontOutlines$Bytes;", true)
  | 1 => ("FontOutlines$Table", "start", "I", false)
  | _ => ("FontOutlines$Table", "length", "I", false)
def q_t6 : Nat → FieldType := fun k => match k with
  | 0 => (.object "FontOutlines$Bytes")
  | 1 => .int
  | _ => .int
def q_T7 : u_T := fun k => match k with
  | 0 => ("FontOutlines", "file", "LFontOutlines$Bytes;", true)
  | 1 => ("FontOutlines", "outline", "LFontOutlines$Outline;", true)
  | 2 => ("FontOutlines", "current", "LFontOutlines$Font;", false)
  | 3 => ("FontOutlines", "spare", "LFontOutlines$Font;", false)
  | 4 => ("FontOutlines", "loaded", "Z", false)
  | _ => ("FontOutlines", "shown", "I", false)
def q_t7 : Nat → FieldType := fun k => match k with
  | 0 => (.object "FontOutlines$Bytes")
  | 1 => (.object "FontOutlines$Outline")
  | 2 => (.object "FontOutlines$Font")
  | 3 => (.object "FontOutlines$Font")
  | 4 => .boolean
  | _ => .int
def q_T8 : u_T := fun k => match k with
  | 0 => ("FontOutlinesModel", "fault", "I", false)
  | 1 => ("FontOutlinesModel", "size", "I", false)
  | 2 => ("FontOutlinesModel", "tape", "[I", true)
  | 3 => ("FontOutlinesModel", "font", "[I", true)
  | 4 => ("FontOutlinesModel", "isFont", "Z", false)
  | 5 => ("FontOutlinesModel", "isWide", "Z", false)
  | 6 => ("FontOutlinesModel", "ofFont", "Z", false)
  | 7 => ("FontOutlinesModel", "bad", "Z", false)
  | 8 => ("FontOutlinesModel", "names", "[I", true)
  | 9 => ("FontOutlinesModel", "places", "[I", true)
  | 10 => ("FontOutlinesModel", "lengths", "[I", true)
  | 11 => ("FontOutlinesModel", "xs", "[I", true)
  | 12 => ("FontOutlinesModel", "ys", "[I", true)
  | 13 => ("FontOutlinesModel", "on", "[Z", true)
  | 14 => ("FontOutlinesModel", "contours", "[I", true)
  | 15 => ("FontOutlinesModel", "flags", "[I", true)
  | 16 => ("FontOutlinesModel", "points", "[I", true)
  | 17 => ("FontOutlinesModel", "rings", "[I", true)
  | 18 => ("FontOutlinesModel", "partCount", "[I", true)
  | 19 => ("FontOutlinesModel", "told", "[I", true)
  | 20 => ("FontOutlinesModel", "windows", "[I", true)
  | 21 => ("FontOutlinesModel", "limits", "[I", true)
  | 22 => ("FontOutlinesModel", "more", "[Z", true)
  | 23 => ("FontOutlinesModel", "partFlags", "[I", true)
  | 24 => ("FontOutlinesModel", "moveX", "[I", true)
  | 25 => ("FontOutlinesModel", "moveY", "[I", true)
  | 26 => ("FontOutlinesModel", "turnA", "[I", true)
  | 27 => ("FontOutlinesModel", "turnB", "[I", true)
  | 28 => ("FontOutlinesModel", "turnC", "[I", true)
  | 29 => ("FontOutlinesModel", "turnD", "[I", true)
  | 30 => ("FontOutlinesModel", "partsRead", "I", false)
  | _ => ("FontOutlinesModel", "lender", "I", false)
def q_t8 : Nat → FieldType := fun k => match k with
  | 0 => .int
  | 1 => .int
  | 2 => (.array .int)
  | 3 => (.array .int)
  | 4 => .boolean
  | 5 => .boolean
  | 6 => .boolean
  | 7 => .boolean
  | 8 => (.array .int)
  | 9 => (.array .int)
  | 10 => (.array .int)
  | 11 => (.array .int)
  | 12 => (.array .int)
  | 13 => (.array .boolean)
  | 14 => (.array .int)
  | 15 => (.array .int)
  | 16 => (.array .int)
  | 17 => (.array .int)
  | 18 => (.array .int)
  | 19 => (.array .int)
  | 20 => (.array .int)
  | 21 => (.array .int)
  | 22 => (.array .boolean)
  | 23 => (.array .int)
  | 24 => (.array .int)
  | 25 => (.array .int)
  | 26 => (.array .int)
  | 27 => (.array .int)
  | 28 => (.array .int)
  | 29 => (.array .int)
  | 30 => .int
  | _ => .int
def q_cl : List vw_C := [("FontOutlines$Bytes", q_T0, 2), ("FontOutlines$CharacterMap", q_T1, 4), ("FontOutlines$Cursor", q_T2, 4), ("FontOutlines$Font", q_T3, 15), ("FontOutlines$Outline", q_T4, 10), ("FontOutlines$Part", q_T5, 9), ("FontOutlines$Table", q_T6, 3), ("FontOutlines", q_T7, 6), ("FontOutlinesModel", q_T8, 32)]
def q_ow : List String := ["FontOutlines$Bytes", "FontOutlines$CharacterMap", "FontOutlines$Cursor", "FontOutlines$Font", "FontOutlines$Outline", "FontOutlines$Part", "FontOutlines$Table", "FontOutlines", "FontOutlinesModel", "FontOutlinesLaw", "java/lang/Math", "java/util/Arrays", "java/lang/Integer"]
def q_ty (ci k : Nat) : FieldType := match ci with
  | 0 => q_t0 k
  | 1 => q_t1 k
  | 2 => q_t2 k
  | 3 => q_t3 k
  | 4 => q_t4 k
  | 5 => q_t5 k
  | 6 => q_t6 k
  | 7 => q_t7 k
  | _ => q_t8 k
def q_has (i : Nat) (w : Cond) : Bool := (match lw_tbl[i]? with | some v => decide (v = w) | none => false) && goodWord w
def q_tbl : List Cond := lw_tbl.filter goodWord
theorem q_has_in {i : Nat} {w : Cond} (h : q_has i w = true) : w ∈ q_tbl := by
  unfold q_has at h
  rw [Bool.and_eq_true] at h
  obtain ⟨h1, h2⟩ := h
  cases hc : lw_tbl[i]? with
  | none => rw [hc] at h1; cases h1
  | some v =>
    rw [hc] at h1
    have e : v = w := of_decide_eq_true h1
    subst e
    exact List.mem_filter.mpr ⟨List.mem_of_getElem? hc, h2⟩
def q_hasL : List Nat → List Cond → Bool
  | [], [] => true
  | i :: is, w :: ws => q_has i w && q_hasL is ws
  | _, _ => false
theorem q_hasL_in : ∀ (is : List Nat) (ws : List Cond), q_hasL is ws = true → ∀ w ∈ ws, w ∈ q_tbl
  | [], [], _ => fun w h => by cases h
  | i :: is, w :: ws, h => fun v hv => by
    simp only [q_hasL, Bool.and_eq_true] at h
    rcases List.mem_cons.mp hv with rfl | hv
    · exact q_has_in h.1
    · exact q_hasL_in is ws h.2 v hv
  | [], _ :: _, h => by cases h
  | _ :: _, [], h => by cases h
theorem q_ci0 : ∀ w ∈ u_ws "FontOutlines$Bytes" q_T0 2, w ∈ q_tbl := q_hasL_in [115, 117] _ (by decide +kernel)
theorem q_ci1 : ∀ w ∈ u_ws "FontOutlines$CharacterMap" q_T1 4, w ∈ q_tbl := q_hasL_in [160, 162, 164, 166] _ (by decide +kernel)
theorem q_ci2 : ∀ w ∈ u_ws "FontOutlines$Cursor" q_T2 4, w ∈ q_tbl := q_hasL_in [238, 240, 242, 244] _ (by decide +kernel)
theorem q_ci3 : ∀ w ∈ u_ws "FontOutlines$Font" q_T3 15, w ∈ q_tbl := q_hasL_in [189, 191, 193, 195, 197, 199, 201, 203, 205, 207, 209, 211, 213, 215, 217] _ (by decide +kernel)
theorem q_ci4 : ∀ w ∈ u_ws "FontOutlines$Outline" q_T4 10, w ∈ q_tbl := q_hasL_in [306, 308, 310, 312, 314, 316, 318, 320, 322, 324] _ (by decide +kernel)
theorem q_ci5 : ∀ w ∈ u_ws "FontOutlines$Part" q_T5 9, w ∈ q_tbl := q_hasL_in [270, 272, 274, 276, 278, 280, 282, 284, 286] _ (by decide +kernel)
theorem q_ci6 : ∀ w ∈ u_ws "FontOutlines$Table" q_T6 3, w ∈ q_tbl := q_hasL_in [142, 144, 146] _ (by decide +kernel)
theorem q_ci7 : ∀ w ∈ u_ws "FontOutlines" q_T7 6, w ∈ q_tbl := q_hasL_in [333, 335, 337, 339, 341, 343] _ (by decide +kernel)
theorem q_ci8 : ∀ w ∈ u_ws "FontOutlinesModel" q_T8 32, w ∈ q_tbl := q_hasL_in [858, 860, 862, 864, 866, 868, 870, 872, 874, 876, 878, 880, 882, 884, 886, 888, 890, 892, 894, 896, 898, 900, 902, 904, 906, 908, 910, 912, 914, 916, 918, 920] _ (by decide +kernel)
theorem q_cok : ∀ (ci : Nat) (C : String) (T : u_T) (N : Nat), q_cl[ci]? = some (C, T, N) → (∀ w ∈ u_ws C T N, w ∈ q_tbl) ∧ (∀ k, k < N → parseFieldDescriptor (T k).2.2.1 = some (q_ty ci k)) ∧ (∀ a, a < N → ∀ b, b < N → a ≠ b → (T a).2.1 ≠ (T b).2.1) ∧ (∀ k, k < N → (T k).1 = C) := by
  intro ci C T N h
  match ci, h with
  | 0, h => cases h; exact ⟨q_ci0, by decide +kernel, by decide +kernel, by decide +kernel⟩
  | 1, h => cases h; exact ⟨q_ci1, by decide +kernel, by decide +kernel, by decide +kernel⟩
  | 2, h => cases h; exact ⟨q_ci2, by decide +kernel, by decide +kernel, by decide +kernel⟩
  | 3, h => cases h; exact ⟨q_ci3, by decide +kernel, by decide +kernel, by decide +kernel⟩
  | 4, h => cases h; exact ⟨q_ci4, by decide +kernel, by decide +kernel, by decide +kernel⟩
  | 5, h => cases h; exact ⟨q_ci5, by decide +kernel, by decide +kernel, by decide +kernel⟩
  | 6, h => cases h; exact ⟨q_ci6, by decide +kernel, by decide +kernel, by decide +kernel⟩
  | 7, h => cases h; exact ⟨q_ci7, by decide +kernel, by decide +kernel, by decide +kernel⟩
  | 8, h => cases h; exact ⟨q_ci8, by decide +kernel, by decide +kernel, by decide +kernel⟩
  | ci + 9, h => cases h
abbrev q_MT : Type := Nat × Nat
def q_cd (i : Nat) : MethodName × ByteArray × Nat × Option FieldType := match lw_tbl[i]? with
  | some (.code y b n r) => (y, b, n, r)
  | _ => (⟨"", "", ""⟩, ⟨#[]⟩, 0, none)
def q_isC (i : Nat) : Bool := match lw_tbl[i]? with
  | some (.code _ _ _ _) => true
  | _ => false
def q_y (M : q_MT) : MethodName := (q_cd M.2).1
def q_b (M : q_MT) : ByteArray := (q_cd M.2).2.1
def q_ln (M : q_MT) : Nat := (q_cd M.2).2.2.1
def q_r (M : q_MT) : Option FieldType := (q_cd M.2).2.2.2
theorem q_isC_in {i : Nat} (h : q_isC i = true) : Cond.code (q_cd i).1 (q_cd i).2.1 (q_cd i).2.2.1 (q_cd i).2.2.2 ∈ q_tbl := by
  unfold q_isC at h
  unfold q_cd
  cases hc : lw_tbl[i]? with
  | none => rw [hc] at h; cases h
  | some w =>
    rw [hc] at h
    cases w <;> first | exact List.mem_filter.mpr ⟨List.mem_of_getElem? hc, rfl⟩ | cases h
def q_okM (M : q_MT) : Bool := q_isC M.2 && decide (q_ow[M.1]? = some (q_y M).cls) && plainName (q_y M).cls && decide (q_ln M + 19 ≤ 64) && decide ((q_y M).cls ≠ "java/lang/invoke/MethodHandle" ∧ (q_y M).cls ≠ "java/lang/invoke/VarHandle")
def M_FO_init : q_MT := (7, 97)
theorem L_FO_init : q_ln M_FO_init = 1 := by decide +kernel
theorem r_FO_init : q_r M_FO_init = none := by decide +kernel
def M_By_init : q_MT := (0, 105)
theorem L_By_init : q_ln M_By_init = 1 := by decide +kernel
theorem r_By_init : q_r M_By_init = none := by decide +kernel
def M_Fo_init : q_MT := (3, 125)
theorem L_Fo_init : q_ln M_Fo_init = 1 := by decide +kernel
theorem r_Fo_init : q_r M_Fo_init = none := by decide +kernel
def M_Ta_init : q_MT := (6, 133)
theorem L_Ta_init : q_ln M_Ta_init = 2 := by decide +kernel
theorem r_Ta_init : q_r M_Ta_init = none := by decide +kernel
def M_Cm_init : q_MT := (1, 153)
theorem L_Cm_init : q_ln M_Cm_init = 2 := by decide +kernel
theorem r_Cm_init : q_r M_Cm_init = none := by decide +kernel
def M_Ou_init : q_MT := (4, 224)
theorem L_Ou_init : q_ln M_Ou_init = 3 := by decide +kernel
theorem r_Ou_init : q_r M_Ou_init = none := by decide +kernel
def M_Cu_init : q_MT := (2, 230)
theorem L_Cu_init : q_ln M_Cu_init = 2 := by decide +kernel
theorem r_Cu_init : q_r M_Cu_init = none := by decide +kernel
def M_Pa_init : q_MT := (5, 253)
theorem L_Pa_init : q_ln M_Pa_init = 2 := by decide +kernel
theorem r_Pa_init : q_r M_Pa_init = none := by decide +kernel
def M_FO_feed : q_MT := (7, 349)
theorem L_FO_feed : q_ln M_FO_feed = 6 := by decide +kernel
theorem r_FO_feed : q_r M_FO_feed = (some .int) := by decide +kernel
def M_By_makeRoom : q_MT := (0, 353)
theorem L_By_makeRoom : q_ln M_By_makeRoom = 2 := by decide +kernel
theorem r_By_makeRoom : q_r M_By_makeRoom = none := by decide +kernel
def M_Ma_max : q_MT := (10, 356)
theorem L_Ma_max : q_ln M_Ma_max = 2 := by decide +kernel
theorem r_Ma_max : q_r M_Ma_max = (some .int) := by decide +kernel
def M_Ma_min : q_MT := (10, 359)
theorem L_Ma_min : q_ln M_Ma_min = 2 := by decide +kernel
theorem r_Ma_min : q_r M_Ma_min = (some .int) := by decide +kernel
def M_Ar_copyOf : q_MT := (11, 362)
theorem L_Ar_copyOf : q_ln M_Ar_copyOf = 3 := by decide +kernel
theorem r_Ar_copyOf : q_r M_Ar_copyOf = (some (.array .byte)) := by decide +kernel
def M_By_addWord : q_MT := (0, 377)
theorem L_By_addWord : q_ln M_By_addWord = 2 := by decide +kernel
theorem r_By_addWord : q_r M_By_addWord = none := by decide +kernel
def M_FO_at : q_MT := (7, 381)
theorem L_FO_at : q_ln M_FO_at = 2 := by decide +kernel
theorem r_FO_at : q_r M_FO_at = (some .int) := by decide +kernel
def M_By_u8 : q_MT := (0, 385)
theorem L_By_u8 : q_ln M_By_u8 = 2 := by decide +kernel
theorem r_By_u8 : q_r M_By_u8 = (some .int) := by decide +kernel
def M_FO_load : q_MT := (7, 389)
theorem L_FO_load : q_ln M_FO_load = 4 := by decide +kernel
theorem r_FO_load : q_r M_FO_load = (some .int) := by decide +kernel
def M_Fo_takeFile : q_MT := (3, 393)
theorem L_Fo_takeFile : q_ln M_Fo_takeFile = 2 := by decide +kernel
theorem r_Fo_takeFile : q_r M_Fo_takeFile = none := by decide +kernel
def M_By_copy : q_MT := (0, 397)
theorem L_By_copy : q_ln M_By_copy = 2 := by decide +kernel
theorem r_By_copy : q_r M_By_copy = none := by decide +kernel
def M_Ta_lay : q_MT := (6, 403)
theorem L_Ta_lay : q_ln M_Ta_lay = 3 := by decide +kernel
theorem r_Ta_lay : q_r M_Ta_lay = none := by decide +kernel
def M_Fo_firstWrong : q_MT := (3, 407)
theorem L_Fo_firstWrong : q_ln M_Fo_firstWrong = 2 := by decide +kernel
theorem r_Fo_firstWrong : q_r M_Fo_firstWrong = (some .int) := by decide +kernel
def M_Fo_isFile : q_MT := (3, 411)
theorem L_Fo_isFile : q_ln M_Fo_isFile = 8 := by decide +kernel
theorem r_Fo_isFile : q_r M_Fo_isFile = (some .boolean) := by decide +kernel
def M_Fo_tables : q_MT := (3, 415)
theorem L_Fo_tables : q_ln M_Fo_tables = 1 := by decide +kernel
theorem r_Fo_tables : q_r M_Fo_tables = (some .int) := by decide +kernel
def M_Ta_u16 : q_MT := (6, 419)
theorem L_Ta_u16 : q_ln M_Ta_u16 = 2 := by decide +kernel
theorem r_Ta_u16 : q_r M_Ta_u16 = (some .int) := by decide +kernel
def M_Ta_u8 : q_MT := (6, 423)
theorem L_Ta_u8 : q_ln M_Ta_u8 = 3 := by decide +kernel
theorem r_Ta_u8 : q_r M_Ta_u8 = (some .int) := by decide +kernel
def M_Ta_u32 : q_MT := (6, 427)
theorem L_Ta_u32 : q_ln M_Ta_u32 = 2 := by decide +kernel
theorem r_Ta_u32 : q_r M_Ta_u32 = (some .long) := by decide +kernel
def M_Ta_holds : q_MT := (6, 433)
theorem L_Ta_holds : q_ln M_Ta_holds = 5 := by decide +kernel
theorem r_Ta_holds : q_r M_Ta_holds = (some .boolean) := by decide +kernel
def M_Fo_hasSums : q_MT := (3, 438)
theorem L_Fo_hasSums : q_ln M_Fo_hasSums = 4 := by decide +kernel
theorem r_Fo_hasSums : q_r M_Fo_hasSums = (some .boolean) := by decide +kernel
def M_Fo_layByEntry : q_MT := (3, 442)
theorem L_Fo_layByEntry : q_ln M_Fo_layByEntry = 3 := by decide +kernel
theorem r_Fo_layByEntry : q_r M_Fo_layByEntry = none := by decide +kernel
def M_Fo_sum : q_MT := (3, 446)
theorem L_Fo_sum : q_ln M_Fo_sum = 5 := by decide +kernel
theorem r_Fo_sum : q_r M_Fo_sum = (some .long) := by decide +kernel
def M_Fo_hasTables : q_MT := (3, 451)
theorem L_Fo_hasTables : q_ln M_Fo_hasTables = 1 := by decide +kernel
theorem r_Fo_hasTables : q_r M_Fo_hasTables = (some .boolean) := by decide +kernel
def M_Fo_finds : q_MT := (3, 456)
theorem L_Fo_finds : q_ln M_Fo_finds = 6 := by decide +kernel
theorem r_Fo_finds : q_r M_Fo_finds = (some .boolean) := by decide +kernel
def M_Fo_hasCounts : q_MT := (3, 466)
theorem L_Fo_hasCounts : q_ln M_Fo_hasCounts = 1 := by decide +kernel
theorem r_Fo_hasCounts : q_r M_Fo_hasCounts = (some .boolean) := by decide +kernel
def M_Fo_hasPlaces : q_MT := (3, 470)
theorem L_Fo_hasPlaces : q_ln M_Fo_hasPlaces = 6 := by decide +kernel
theorem r_Fo_hasPlaces : q_r M_Fo_hasPlaces = (some .boolean) := by decide +kernel
def M_Fo_dataPlace : q_MT := (3, 474)
theorem L_Fo_dataPlace : q_ln M_Fo_dataPlace = 2 := by decide +kernel
theorem r_Fo_dataPlace : q_r M_Fo_dataPlace = (some .long) := by decide +kernel
def M_Cm_isFound : q_MT := (1, 478)
theorem L_Cm_isFound : q_ln M_Cm_isFound = 3 := by decide +kernel
theorem r_Cm_isFound : q_r M_Cm_isFound = (some .boolean) := by decide +kernel
def M_Cm_firstEntry : q_MT := (1, 485)
theorem L_Cm_firstEntry : q_ln M_Cm_firstEntry = 5 := by decide +kernel
theorem r_Cm_firstEntry : q_r M_Cm_firstEntry = (some .int) := by decide +kernel
def M_Cm_hasGroups : q_MT := (1, 490)
theorem L_Cm_hasGroups : q_ln M_Cm_hasGroups = 11 := by decide +kernel
theorem r_Cm_hasGroups : q_r M_Cm_hasGroups = (some .boolean) := by decide +kernel
def M_Cm_hasSegments : q_MT := (1, 498)
theorem L_Cm_hasSegments : q_ln M_Cm_hasSegments = 5 := by decide +kernel
theorem r_Cm_hasSegments : q_r M_Cm_hasSegments = (some .boolean) := by decide +kernel
def M_Cm_lastOf : q_MT := (1, 502)
theorem L_Cm_lastOf : q_ln M_Cm_lastOf = 2 := by decide +kernel
theorem r_Cm_lastOf : q_r M_Cm_lastOf = (some .int) := by decide +kernel
def M_Cm_firstOf : q_MT := (1, 506)
theorem L_Cm_firstOf : q_ln M_Cm_firstOf = 2 := by decide +kernel
theorem r_Cm_firstOf : q_r M_Cm_firstOf = (some .int) := by decide +kernel
def M_Ou_readsAll : q_MT := (4, 511)
theorem L_Ou_readsAll : q_ln M_Ou_readsAll = 3 := by decide +kernel
theorem r_Ou_readsAll : q_r M_Ou_readsAll = (some .boolean) := by decide +kernel
def M_Ou_readGlyph : q_MT := (4, 515)
theorem L_Ou_readGlyph : q_ln M_Ou_readGlyph = 3 := by decide +kernel
theorem r_Ou_readGlyph : q_r M_Ou_readGlyph = (some .boolean) := by decide +kernel
def M_Ou_addsGlyph : q_MT := (4, 519)
theorem L_Ou_addsGlyph : q_ln M_Ou_addsGlyph = 7 := by decide +kernel
theorem r_Ou_addsGlyph : q_r M_Ou_addsGlyph = (some .boolean) := by decide +kernel
def M_Cu_begin : q_MT := (2, 524)
theorem L_Cu_begin : q_ln M_Cu_begin = 4 := by decide +kernel
theorem r_Cu_begin : q_r M_Cu_begin = none := by decide +kernel
def M_Cu_u16 : q_MT := (2, 529)
theorem L_Cu_u16 : q_ln M_Cu_u16 = 2 := by decide +kernel
theorem r_Cu_u16 : q_r M_Cu_u16 = (some .int) := by decide +kernel
def M_Cu_pass : q_MT := (2, 533)
theorem L_Cu_pass : q_ln M_Cu_pass = 2 := by decide +kernel
theorem r_Cu_pass : q_r M_Cu_pass = none := by decide +kernel
def M_Cu_follow : q_MT := (2, 537)
theorem L_Cu_follow : q_ln M_Cu_follow = 2 := by decide +kernel
theorem r_Cu_follow : q_r M_Cu_follow = none := by decide +kernel
def M_Ou_addsParts : q_MT := (4, 541)
theorem L_Ou_addsParts : q_ln M_Ou_addsParts = 10 := by decide +kernel
theorem r_Ou_addsParts : q_r M_Ou_addsParts = (some .boolean) := by decide +kernel
def M_Pa_isRead : q_MT := (5, 545)
theorem L_Pa_isRead : q_ln M_Pa_isRead = 1 := by decide +kernel
theorem r_Pa_isRead : q_r M_Pa_isRead = (some .boolean) := by decide +kernel
def M_Pa_number : q_MT := (5, 550)
theorem L_Pa_number : q_ln M_Pa_number = 2 := by decide +kernel
theorem r_Pa_number : q_r M_Pa_number = (some .int) := by decide +kernel
def M_Pa_has : q_MT := (5, 554)
theorem L_Pa_has : q_ln M_Pa_has = 2 := by decide +kernel
theorem r_Pa_has : q_r M_Pa_has = (some .boolean) := by decide +kernel
def M_Cu_u8 : q_MT := (2, 558)
theorem L_Cu_u8 : q_ln M_Cu_u8 = 2 := by decide +kernel
theorem r_Cu_u8 : q_r M_Cu_u8 = (some .int) := by decide +kernel
def M_Pa_readFactors : q_MT := (5, 562)
theorem L_Pa_readFactors : q_ln M_Pa_readFactors = 1 := by decide +kernel
theorem r_Pa_readFactors : q_r M_Pa_readFactors = none := by decide +kernel
def M_In_bitCount : q_MT := (12, 565)
theorem L_In_bitCount : q_ln M_In_bitCount = 1 := by decide +kernel
theorem r_In_bitCount : q_r M_In_bitCount = (some .int) := by decide +kernel
def M_Ou_isLaid : q_MT := (4, 572)
theorem L_Ou_isLaid : q_ln M_Ou_isLaid = 9 := by decide +kernel
theorem r_Ou_isLaid : q_r M_Ou_isLaid = (some .boolean) := by decide +kernel
def M_Pa_turnedX : q_MT := (5, 577)
theorem L_Pa_turnedX : q_ln M_Pa_turnedX = 3 := by decide +kernel
theorem r_Pa_turnedX : q_r M_Pa_turnedX = (some .int) := by decide +kernel
def M_Pa_turnedY : q_MT := (5, 581)
theorem L_Pa_turnedY : q_ln M_Pa_turnedY = 3 := by decide +kernel
theorem r_Pa_turnedY : q_r M_Pa_turnedY = (some .int) := by decide +kernel
def M_Ou_isCoordinate : q_MT := (4, 585)
theorem L_Ou_isCoordinate : q_ln M_Ou_isCoordinate = 2 := by decide +kernel
theorem r_Ou_isCoordinate : q_r M_Ou_isCoordinate = (some .boolean) := by decide +kernel
def M_Ou_addsSimple : q_MT := (4, 589)
theorem L_Ou_addsSimple : q_ln M_Ou_addsSimple = 3 := by decide +kernel
theorem r_Ou_addsSimple : q_r M_Ou_addsSimple = (some .boolean) := by decide +kernel
def M_Ou_addsContours : q_MT := (4, 593)
theorem L_Ou_addsContours : q_ln M_Ou_addsContours = 7 := by decide +kernel
theorem r_Ou_addsContours : q_r M_Ou_addsContours = (some .boolean) := by decide +kernel
def M_Ou_readsFlags : q_MT := (4, 597)
theorem L_Ou_readsFlags : q_ln M_Ou_readsFlags = 5 := by decide +kernel
theorem r_Ou_readsFlags : q_r M_Ou_readsFlags = (some .boolean) := by decide +kernel
def M_Ou_readsAxis : q_MT := (4, 602)
theorem L_Ou_readsAxis : q_ln M_Ou_readsAxis = 9 := by decide +kernel
theorem r_Ou_readsAxis : q_r M_Ou_readsAxis = (some .boolean) := by decide +kernel
def M_FO_put : q_MT := (7, 611)
theorem L_FO_put : q_ln M_FO_put = 4 := by decide +kernel
theorem r_FO_put : q_r M_FO_put = (some .int) := by decide +kernel
def M_By_change : q_MT := (0, 698)
theorem L_By_change : q_ln M_By_change = 3 := by decide +kernel
theorem r_By_change : q_r M_By_change = none := by decide +kernel
def M_FO_cut : q_MT := (7, 705)
theorem L_FO_cut : q_ln M_FO_cut = 3 := by decide +kernel
theorem r_FO_cut : q_r M_FO_cut = (some .int) := by decide +kernel
def M_FO_glyph : q_MT := (7, 714)
theorem L_FO_glyph : q_ln M_FO_glyph = 4 := by decide +kernel
theorem r_FO_glyph : q_r M_FO_glyph = (some .int) := by decide +kernel
def M_FO_needFont : q_MT := (7, 718)
theorem L_FO_needFont : q_ln M_FO_needFont = 1 := by decide +kernel
theorem r_FO_needFont : q_r M_FO_needFont = none := by decide +kernel
def M_Cm_glyphOf : q_MT := (1, 740)
theorem L_Cm_glyphOf : q_ln M_Cm_glyphOf = 2 := by decide +kernel
theorem r_Cm_glyphOf : q_r M_Cm_glyphOf = (some .long) := by decide +kernel
def M_Cm_glyphByGroups : q_MT := (1, 744)
theorem L_Cm_glyphByGroups : q_ln M_Cm_glyphByGroups = 6 := by decide +kernel
theorem r_Cm_glyphByGroups : q_r M_Cm_glyphByGroups = (some .long) := by decide +kernel
def M_Cm_glyphBySegments : q_MT := (1, 749)
theorem L_Cm_glyphBySegments : q_ln M_Cm_glyphBySegments = 3 := by decide +kernel
theorem r_Cm_glyphBySegments : q_r M_Cm_glyphBySegments = (some .int) := by decide +kernel
def M_Cm_glyphBySegment : q_MT := (1, 753)
theorem L_Cm_glyphBySegment : q_ln M_Cm_glyphBySegment = 7 := by decide +kernel
theorem r_Cm_glyphBySegment : q_r M_Cm_glyphBySegment = (some .int) := by decide +kernel
def M_FO_measure : q_MT := (7, 761)
theorem L_FO_measure : q_ln M_FO_measure = 3 := by decide +kernel
theorem r_FO_measure : q_r M_FO_measure = (some .int) := by decide +kernel
def M_FO_isGlyph : q_MT := (7, 765)
theorem L_FO_isGlyph : q_ln M_FO_isGlyph = 2 := by decide +kernel
theorem r_FO_isGlyph : q_r M_FO_isGlyph = (some .boolean) := by decide +kernel
def M_FO_show : q_MT := (7, 770)
theorem L_FO_show : q_ln M_FO_show = 2 := by decide +kernel
theorem r_FO_show : q_r M_FO_show = none := by decide +kernel
def M_Fo_widthOf : q_MT := (3, 775)
theorem L_Fo_widthOf : q_ln M_Fo_widthOf = 2 := by decide +kernel
theorem r_Fo_widthOf : q_r M_Fo_widthOf = (some .int) := by decide +kernel
def M_Fo_leftOf : q_MT := (3, 780)
theorem L_Fo_leftOf : q_ln M_Fo_leftOf = 2 := by decide +kernel
theorem r_Fo_leftOf : q_r M_Fo_leftOf = (some .int) := by decide +kernel
def M_Ta_s16 : q_MT := (6, 784)
theorem L_Ta_s16 : q_ln M_Ta_s16 = 2 := by decide +kernel
theorem r_Ta_s16 : q_r M_Ta_s16 = (some .int) := by decide +kernel
def M_Ou_least : q_MT := (4, 789)
theorem L_Ou_least : q_ln M_Ou_least = 4 := by decide +kernel
theorem r_Ou_least : q_r M_Ou_least = (some .int) := by decide +kernel
def M_Ou_greatest : q_MT := (4, 794)
theorem L_Ou_greatest : q_ln M_Ou_greatest = 4 := by decide +kernel
theorem r_Ou_greatest : q_r M_Ou_greatest = (some .int) := by decide +kernel
def M_FO_point : q_MT := (7, 802)
theorem L_FO_point : q_ln M_FO_point = 4 := by decide +kernel
theorem r_FO_point : q_r M_FO_point = (some .int) := by decide +kernel
def M_FO_font : q_MT := (7, 811)
theorem L_FO_font : q_ln M_FO_font = 2 := by decide +kernel
theorem r_FO_font : q_r M_FO_font = (some .int) := by decide +kernel
def M_Mo_init : q_MT := (8, 817)
theorem L_Mo_init : q_ln M_Mo_init = 1 := by decide +kernel
theorem r_Mo_init : q_r M_Mo_init = none := by decide +kernel
def M_Mo_thrown : q_MT := (8, 927)
theorem L_Mo_thrown : q_ln M_Mo_thrown = 1 := by decide +kernel
theorem r_Mo_thrown : q_r M_Mo_thrown = (some .int) := by decide +kernel
def M_Mo_feed : q_MT := (8, 931)
theorem L_Mo_feed : q_ln M_Mo_feed = 6 := by decide +kernel
theorem r_Mo_feed : q_r M_Mo_feed = (some .int) := by decide +kernel
def M_Mo_put4 : q_MT := (8, 935)
theorem L_Mo_put4 : q_ln M_Mo_put4 = 3 := by decide +kernel
theorem r_Mo_put4 : q_r M_Mo_put4 = none := by decide +kernel
def M_Mo_put : q_MT := (8, 939)
theorem L_Mo_put : q_ln M_Mo_put = 4 := by decide +kernel
theorem r_Mo_put : q_r M_Mo_put = (some .int) := by decide +kernel
def M_Mo_refused : q_MT := (8, 943)
theorem L_Mo_refused : q_ln M_Mo_refused = 2 := by decide +kernel
theorem r_Mo_refused : q_r M_Mo_refused = (some .boolean) := by decide +kernel
def M_Mo_at : q_MT := (8, 947)
theorem L_Mo_at : q_ln M_Mo_at = 2 := by decide +kernel
theorem r_Mo_at : q_r M_Mo_at = (some .int) := by decide +kernel
def M_Mo_cut : q_MT := (8, 951)
theorem L_Mo_cut : q_ln M_Mo_cut = 3 := by decide +kernel
theorem r_Mo_cut : q_r M_Mo_cut = (some .int) := by decide +kernel
def M_Mo_load : q_MT := (8, 955)
theorem L_Mo_load : q_ln M_Mo_load = 3 := by decide +kernel
theorem r_Mo_load : q_r M_Mo_load = (some .int) := by decide +kernel
def M_Mo_checkFile : q_MT := (8, 959)
theorem L_Mo_checkFile : q_ln M_Mo_checkFile = 9 := by decide +kernel
theorem r_Mo_checkFile : q_r M_Mo_checkFile = none := by decide +kernel
def M_Mo_u32 : q_MT := (8, 963)
theorem L_Mo_u32 : q_ln M_Mo_u32 = 6 := by decide +kernel
theorem r_Mo_u32 : q_r M_Mo_u32 = (some .long) := by decide +kernel
def M_Mo_u16 : q_MT := (8, 968)
theorem L_Mo_u16 : q_ln M_Mo_u16 = 6 := by decide +kernel
theorem r_Mo_u16 : q_r M_Mo_u16 = (some .int) := by decide +kernel
def M_Mo_u8 : q_MT := (8, 972)
theorem L_Mo_u8 : q_ln M_Mo_u8 = 8 := by decide +kernel
theorem r_Mo_u8 : q_r M_Mo_u8 = (some .int) := by decide +kernel
def M_Mo_need : q_MT := (8, 976)
theorem L_Mo_need : q_ln M_Mo_need = 2 := by decide +kernel
theorem r_Mo_need : q_r M_Mo_need = none := by decide +kernel
def M_Mo_tables : q_MT := (8, 981)
theorem L_Mo_tables : q_ln M_Mo_tables = 1 := by decide +kernel
theorem r_Mo_tables : q_r M_Mo_tables = (some .int) := by decide +kernel
def M_Mo_checkSums : q_MT := (8, 990)
theorem L_Mo_checkSums : q_ln M_Mo_checkSums = 4 := by decide +kernel
theorem r_Mo_checkSums : q_r M_Mo_checkSums = none := by decide +kernel
def M_Mo_sumOf : q_MT := (8, 994)
theorem L_Mo_sumOf : q_ln M_Mo_sumOf = 11 := by decide +kernel
theorem r_Mo_sumOf : q_r M_Mo_sumOf = (some .long) := by decide +kernel
def M_Mo_findTables : q_MT := (8, 1000)
theorem L_Mo_findTables : q_ln M_Mo_findTables = 6 := by decide +kernel
theorem r_Mo_findTables : q_r M_Mo_findTables = none := by decide +kernel
def M_Mo_checkForms : q_MT := (8, 1004)
theorem L_Mo_checkForms : q_ln M_Mo_checkForms = 9 := by decide +kernel
theorem r_Mo_checkForms : q_r M_Mo_checkForms = none := by decide +kernel
def M_Mo_t16 : q_MT := (8, 1009)
theorem L_Mo_t16 : q_ln M_Mo_t16 = 4 := by decide +kernel
theorem r_Mo_t16 : q_r M_Mo_t16 = (some .int) := by decide +kernel
def M_Mo_tableAt : q_MT := (8, 1013)
theorem L_Mo_tableAt : q_ln M_Mo_tableAt = 2 := by decide +kernel
theorem r_Mo_tableAt : q_r M_Mo_tableAt = (some .int) := by decide +kernel
def M_Mo_tableLength : q_MT := (8, 1017)
theorem L_Mo_tableLength : q_ln M_Mo_tableLength = 2 := by decide +kernel
theorem r_Mo_tableLength : q_r M_Mo_tableLength = (some .int) := by decide +kernel
def M_Mo_glyphCount : q_MT := (8, 1022)
theorem L_Mo_glyphCount : q_ln M_Mo_glyphCount = 1 := by decide +kernel
theorem r_Mo_glyphCount : q_r M_Mo_glyphCount = (some .int) := by decide +kernel
def M_Mo_longCount : q_MT := (8, 1026)
theorem L_Mo_longCount : q_ln M_Mo_longCount = 1 := by decide +kernel
theorem r_Mo_longCount : q_r M_Mo_longCount = (some .int) := by decide +kernel
def M_Mo_dataAt : q_MT := (8, 1031)
theorem L_Mo_dataAt : q_ln M_Mo_dataAt = 2 := by decide +kernel
theorem r_Mo_dataAt : q_r M_Mo_dataAt = (some .long) := by decide +kernel
def M_Mo_t32 : q_MT := (8, 1035)
theorem L_Mo_t32 : q_ln M_Mo_t32 = 4 := by decide +kernel
theorem r_Mo_t32 : q_r M_Mo_t32 = (some .long) := by decide +kernel
def M_Mo_checkMap : q_MT := (8, 1039)
theorem L_Mo_checkMap : q_ln M_Mo_checkMap = 3 := by decide +kernel
theorem r_Mo_checkMap : q_r M_Mo_checkMap = none := by decide +kernel
def M_Mo_hasMap : q_MT := (8, 1043)
theorem L_Mo_hasMap : q_ln M_Mo_hasMap = 2 := by decide +kernel
theorem r_Mo_hasMap : q_r M_Mo_hasMap = (some .boolean) := by decide +kernel
def M_Mo_mapAt : q_MT := (8, 1047)
theorem L_Mo_mapAt : q_ln M_Mo_mapAt = 9 := by decide +kernel
theorem r_Mo_mapAt : q_r M_Mo_mapAt = (some .long) := by decide +kernel
def M_Mo_checkGroups : q_MT := (8, 1051)
theorem L_Mo_checkGroups : q_ln M_Mo_checkGroups = 15 := by decide +kernel
theorem r_Mo_checkGroups : q_r M_Mo_checkGroups = none := by decide +kernel
def M_Mo_checkSegments : q_MT := (8, 1056)
theorem L_Mo_checkSegments : q_ln M_Mo_checkSegments = 8 := by decide +kernel
theorem r_Mo_checkSegments : q_r M_Mo_checkSegments = none := by decide +kernel
def M_Mo_checkGlyphs : q_MT := (8, 1064)
theorem L_Mo_checkGlyphs : q_ln M_Mo_checkGlyphs = 3 := by decide +kernel
theorem r_Mo_checkGlyphs : q_r M_Mo_checkGlyphs = none := by decide +kernel
def M_Mo_readGlyph : q_MT := (8, 1068)
theorem L_Mo_readGlyph : q_ln M_Mo_readGlyph = 4 := by decide +kernel
theorem r_Mo_readGlyph : q_r M_Mo_readGlyph = none := by decide +kernel
def M_Mo_begin : q_MT := (8, 1072)
theorem L_Mo_begin : q_ln M_Mo_begin = 8 := by decide +kernel
theorem r_Mo_begin : q_r M_Mo_begin = none := by decide +kernel
def M_Mo_s16 : q_MT := (8, 1076)
theorem L_Mo_s16 : q_ln M_Mo_s16 = 7 := by decide +kernel
theorem r_Mo_s16 : q_r M_Mo_s16 = (some .int) := by decide +kernel
def M_Mo_readSimple : q_MT := (8, 1081)
theorem L_Mo_readSimple : q_ln M_Mo_readSimple = 10 := by decide +kernel
theorem r_Mo_readSimple : q_r M_Mo_readSimple = none := by decide +kernel
def M_Mo_readFlags : q_MT := (8, 1086)
theorem L_Mo_readFlags : q_ln M_Mo_readFlags = 14 := by decide +kernel
theorem r_Mo_readFlags : q_r M_Mo_readFlags = (some .long) := by decide +kernel
def M_Mo_readSteps : q_MT := (8, 1090)
theorem L_Mo_readSteps : q_ln M_Mo_readSteps = 15 := by decide +kernel
theorem r_Mo_readSteps : q_r M_Mo_readSteps = (some .long) := by decide +kernel
def M_Mo_isCoordinate : q_MT := (8, 1093)
theorem L_Mo_isCoordinate : q_ln M_Mo_isCoordinate = 2 := by decide +kernel
theorem r_Mo_isCoordinate : q_r M_Mo_isCoordinate = (some .boolean) := by decide +kernel
def M_Mo_readPart : q_MT := (8, 1099)
theorem L_Mo_readPart : q_ln M_Mo_readPart = 12 := by decide +kernel
theorem r_Mo_readPart : q_r M_Mo_readPart = (some .int) := by decide +kernel
def M_Mo_number : q_MT := (8, 1103)
theorem L_Mo_number : q_ln M_Mo_number = 8 := by decide +kernel
theorem r_Mo_number : q_r M_Mo_number = (some .int) := by decide +kernel
def M_Mo_f16 : q_MT := (8, 1109)
theorem L_Mo_f16 : q_ln M_Mo_f16 = 4 := by decide +kernel
theorem r_Mo_f16 : q_r M_Mo_f16 = (some .int) := by decide +kernel
def M_Mo_join : q_MT := (8, 1113)
theorem L_Mo_join : q_ln M_Mo_join = 16 := by decide +kernel
theorem r_Mo_join : q_r M_Mo_join = none := by decide +kernel
def M_Mo_turned : q_MT := (8, 1116)
theorem L_Mo_turned : q_ln M_Mo_turned = 6 := by decide +kernel
theorem r_Mo_turned : q_r M_Mo_turned = (some .long) := by decide +kernel
def M_Mo_glyph : q_MT := (8, 1121)
theorem L_Mo_glyph : q_ln M_Mo_glyph = 2 := by decide +kernel
theorem r_Mo_glyph : q_r M_Mo_glyph = (some .int) := by decide +kernel
def M_Mo_groupGlyph : q_MT := (8, 1126)
theorem L_Mo_groupGlyph : q_ln M_Mo_groupGlyph = 15 := by decide +kernel
theorem r_Mo_groupGlyph : q_r M_Mo_groupGlyph = (some .int) := by decide +kernel
def M_Mo_segmentGlyph : q_MT := (8, 1130)
theorem L_Mo_segmentGlyph : q_ln M_Mo_segmentGlyph = 14 := by decide +kernel
theorem r_Mo_segmentGlyph : q_r M_Mo_segmentGlyph = (some .int) := by decide +kernel
def M_Mo_measure : q_MT := (8, 1134)
theorem L_Mo_measure : q_ln M_Mo_measure = 4 := by decide +kernel
theorem r_Mo_measure : q_r M_Mo_measure = (some .int) := by decide +kernel
def M_Mo_isGlyph : q_MT := (8, 1138)
theorem L_Mo_isGlyph : q_ln M_Mo_isGlyph = 2 := by decide +kernel
theorem r_Mo_isGlyph : q_r M_Mo_isGlyph = (some .boolean) := by decide +kernel
def M_Mo_lends : q_MT := (8, 1142)
theorem L_Mo_lends : q_ln M_Mo_lends = 3 := by decide +kernel
theorem r_Mo_lends : q_r M_Mo_lends = (some .int) := by decide +kernel
def M_Mo_width : q_MT := (8, 1146)
theorem L_Mo_width : q_ln M_Mo_width = 3 := by decide +kernel
theorem r_Mo_width : q_r M_Mo_width = (some .int) := by decide +kernel
def M_Mo_left : q_MT := (8, 1150)
theorem L_Mo_left : q_ln M_Mo_left = 3 := by decide +kernel
theorem r_Mo_left : q_r M_Mo_left = (some .int) := by decide +kernel
def M_Mo_bound : q_MT := (8, 1154)
theorem L_Mo_bound : q_ln M_Mo_bound = 6 := by decide +kernel
theorem r_Mo_bound : q_r M_Mo_bound = (some .int) := by decide +kernel
def M_Mo_point : q_MT := (8, 1158)
theorem L_Mo_point : q_ln M_Mo_point = 5 := by decide +kernel
theorem r_Mo_point : q_r M_Mo_point = (some .int) := by decide +kernel
def M_Mo_font : q_MT := (8, 1162)
theorem L_Mo_font : q_ln M_Mo_font = 2 := by decide +kernel
theorem r_Mo_font : q_r M_Mo_font = (some .int) := by decide +kernel
def q_flL : List (Nat × Nat × Nat × Nat × Bool × Nat) := [(0, 9, 0, 0, false, 107), (2, 41, 0, 0, true, 108), (6, 25, 0, 0, true, 109), (0, 15, 0, 1, false, 110), (7, 43, 0, 1, true, 111), (3, 63, 0, 1, true, 112), (2, 30, 0, 1, true, 113), (6, 20, 0, 1, true, 114), (6, 7, 6, 0, false, 135), (2, 24, 6, 0, true, 136), (6, 13, 6, 1, false, 137), (2, 27, 6, 1, true, 138), (6, 17, 6, 2, false, 139), (1, 46, 6, 2, true, 140), (3, 120, 6, 2, true, 141), (1, 9, 1, 0, false, 155), (1, 15, 1, 1, false, 156), (7, 158, 1, 1, true, 157), (1, 19, 1, 2, false, 158), (1, 23, 1, 3, false, 159), (3, 12, 3, 0, false, 169), (3, 23, 3, 1, false, 170), (3, 27, 3, 2, false, 171), (3, 30, 3, 3, false, 172), (3, 33, 3, 4, false, 173), (4, 70, 3, 4, true, 174), (3, 36, 3, 5, false, 175), (3, 39, 3, 6, false, 176), (3, 42, 3, 7, false, 177), (3, 45, 3, 8, false, 178), (3, 48, 3, 9, false, 179), (3, 56, 3, 10, false, 180), (7, 95, 3, 10, true, 181), (7, 155, 3, 11, true, 182), (3, 136, 3, 11, false, 183), (4, 40, 3, 12, true, 184), (7, 86, 3, 12, true, 185), (3, 143, 3, 12, false, 186), (3, 146, 3, 13, false, 187), (3, 139, 3, 14, false, 188), (2, 7, 2, 0, false, 232), (2, 13, 2, 1, false, 233), (2, 17, 2, 2, false, 234), (2, 20, 2, 3, false, 235), (5, 43, 2, 3, true, 236), (4, 86, 2, 3, true, 237), (5, 14, 5, 0, false, 257), (4, 90, 5, 0, true, 258), (5, 20, 5, 1, false, 259), (5, 28, 5, 2, false, 260), (4, 122, 5, 2, true, 261), (5, 34, 5, 3, false, 262), (4, 132, 5, 3, true, 263), (5, 37, 5, 4, false, 264), (4, 135, 5, 4, true, 265), (5, 60, 5, 5, false, 266), (5, 63, 5, 6, false, 267), (5, 66, 5, 7, false, 268), (5, 69, 5, 8, false, 269), (4, 9, 4, 0, false, 289), (7, 129, 4, 0, true, 290), (4, 15, 4, 1, false, 291), (7, 137, 4, 1, true, 292), (4, 18, 4, 2, false, 293), (7, 147, 4, 2, true, 294), (4, 21, 4, 3, false, 295), (7, 150, 4, 3, true, 296), (4, 29, 4, 4, false, 297), (4, 35, 4, 5, false, 298), (4, 50, 4, 6, false, 299), (7, 123, 4, 6, true, 300), (4, 53, 4, 7, false, 301), (7, 126, 4, 7, true, 302), (4, 56, 4, 8, false, 303), (4, 63, 4, 9, false, 304), (7, 114, 4, 9, true, 305), (7, 12, 7, 0, false, 327), (7, 31, 7, 1, false, 328), (7, 19, 7, 2, false, 329), (7, 23, 7, 3, false, 330), (7, 35, 7, 4, false, 331), (7, 39, 7, 5, false, 332), (8, 90, 8, 0, false, 826), (8, 94, 8, 1, false, 827), (8, 7, 8, 2, false, 828), (8, 13, 8, 3, false, 829), (8, 230, 8, 4, false, 830), (8, 233, 8, 5, false, 831), (8, 113, 8, 6, false, 832), (8, 105, 8, 7, false, 833), (8, 16, 8, 8, false, 834), (8, 19, 8, 9, false, 835), (8, 22, 8, 10, false, 836), (8, 25, 8, 11, false, 837), (8, 28, 8, 12, false, 838), (8, 31, 8, 13, false, 839), (8, 35, 8, 14, false, 840), (8, 38, 8, 15, false, 841), (8, 41, 8, 16, false, 842), (8, 44, 8, 17, false, 843), (8, 47, 8, 18, false, 844), (8, 50, 8, 19, false, 845), (8, 53, 8, 20, false, 846), (8, 56, 8, 21, false, 847), (8, 59, 8, 22, false, 848), (8, 62, 8, 23, false, 849), (8, 65, 8, 24, false, 850), (8, 68, 8, 25, false, 851), (8, 71, 8, 26, false, 852), (8, 74, 8, 27, false, 853), (8, 77, 8, 28, false, 854), (8, 80, 8, 29, false, 855), (8, 247, 8, 30, false, 856), (8, 250, 8, 31, false, 857)]
def q_hasN (i : Nat) (w : Cond) : Bool := match lw_tbl[i]? with | some v => decide (v = w) | none => false
def q_isN : Cond → Bool
  | .fieldLinkNest _ _ _ _ _ _ => true
  | _ => false
def q_nst : List Cond := lw_tbl.filter q_isN
theorem q_hasN_in {i : Nat} {w : Cond} (hN : q_isN w = true) (h : q_hasN i w = true) : w ∈ q_nst := by
  unfold q_hasN at h
  cases hc : lw_tbl[i]? with
  | none => rw [hc] at h; cases h
  | some v =>
    rw [hc] at h
    have e : v = w := of_decide_eq_true h
    subst e
    exact List.mem_filter.mpr ⟨List.mem_of_getElem? hc, hN⟩
def q_okF (x : Nat × Nat × Nat × Nat × Bool × Nat) : Bool := match q_ow[x.1]?, q_cl[x.2.2.1]? with
  | some o, some (C, T, N) => decide (x.2.2.2.1 < N) && (if x.2.2.2.2.1 then q_hasN x.2.2.2.2.2 (.fieldLinkNest o x.2.1 C (T x.2.2.2.1).2.1 (T x.2.2.2.1).2.2.1 "FontOutlines") else q_has x.2.2.2.2.2 (.fieldLink o x.2.1 C (T x.2.2.2.1).2.1 (T x.2.2.2.1).2.2.1))
  | _, _ => false
theorem q_flL_ok : q_flL.all q_okF = true := by decide +kernel
def q_fl (w j : Nat) : Option (Nat × Nat × Bool) := (q_flL.find? (fun x => x.1 == w && x.2.1 == j)).map (fun x => (x.2.2.1, x.2.2.2.1, x.2.2.2.2.1))
theorem f_0_9 : q_fl 0 9 = some (0, 0, false) := rfl
theorem f_2_41 : q_fl 2 41 = some (0, 0, true) := rfl
theorem f_6_25 : q_fl 6 25 = some (0, 0, true) := rfl
theorem f_0_15 : q_fl 0 15 = some (0, 1, false) := rfl
theorem f_7_43 : q_fl 7 43 = some (0, 1, true) := rfl
theorem f_3_63 : q_fl 3 63 = some (0, 1, true) := rfl
theorem f_2_30 : q_fl 2 30 = some (0, 1, true) := rfl
theorem f_6_20 : q_fl 6 20 = some (0, 1, true) := rfl
theorem f_6_7 : q_fl 6 7 = some (6, 0, false) := rfl
theorem f_2_24 : q_fl 2 24 = some (6, 0, true) := rfl
theorem f_6_13 : q_fl 6 13 = some (6, 1, false) := rfl
theorem f_2_27 : q_fl 2 27 = some (6, 1, true) := rfl
theorem f_6_17 : q_fl 6 17 = some (6, 2, false) := rfl
theorem f_1_46 : q_fl 1 46 = some (6, 2, true) := rfl
theorem f_3_120 : q_fl 3 120 = some (6, 2, true) := rfl
theorem f_1_9 : q_fl 1 9 = some (1, 0, false) := rfl
theorem f_1_15 : q_fl 1 15 = some (1, 1, false) := rfl
theorem f_7_158 : q_fl 7 158 = some (1, 1, true) := rfl
theorem f_1_19 : q_fl 1 19 = some (1, 2, false) := rfl
theorem f_1_23 : q_fl 1 23 = some (1, 3, false) := rfl
theorem f_3_12 : q_fl 3 12 = some (3, 0, false) := rfl
theorem f_3_23 : q_fl 3 23 = some (3, 1, false) := rfl
theorem f_3_27 : q_fl 3 27 = some (3, 2, false) := rfl
theorem f_3_30 : q_fl 3 30 = some (3, 3, false) := rfl
theorem f_3_33 : q_fl 3 33 = some (3, 4, false) := rfl
theorem f_4_70 : q_fl 4 70 = some (3, 4, true) := rfl
theorem f_3_36 : q_fl 3 36 = some (3, 5, false) := rfl
theorem f_3_39 : q_fl 3 39 = some (3, 6, false) := rfl
theorem f_3_42 : q_fl 3 42 = some (3, 7, false) := rfl
theorem f_3_45 : q_fl 3 45 = some (3, 8, false) := rfl
theorem f_3_48 : q_fl 3 48 = some (3, 9, false) := rfl
theorem f_3_56 : q_fl 3 56 = some (3, 10, false) := rfl
theorem f_7_95 : q_fl 7 95 = some (3, 10, true) := rfl
theorem f_7_155 : q_fl 7 155 = some (3, 11, true) := rfl
theorem f_3_136 : q_fl 3 136 = some (3, 11, false) := rfl
theorem f_4_40 : q_fl 4 40 = some (3, 12, true) := rfl
theorem f_7_86 : q_fl 7 86 = some (3, 12, true) := rfl
theorem f_3_143 : q_fl 3 143 = some (3, 12, false) := rfl
theorem f_3_146 : q_fl 3 146 = some (3, 13, false) := rfl
theorem f_3_139 : q_fl 3 139 = some (3, 14, false) := rfl
theorem f_2_7 : q_fl 2 7 = some (2, 0, false) := rfl
theorem f_2_13 : q_fl 2 13 = some (2, 1, false) := rfl
theorem f_2_17 : q_fl 2 17 = some (2, 2, false) := rfl
theorem f_2_20 : q_fl 2 20 = some (2, 3, false) := rfl
theorem f_5_43 : q_fl 5 43 = some (2, 3, true) := rfl
theorem f_4_86 : q_fl 4 86 = some (2, 3, true) := rfl
theorem f_5_14 : q_fl 5 14 = some (5, 0, false) := rfl
theorem f_4_90 : q_fl 4 90 = some (5, 0, true) := rfl
theorem f_5_20 : q_fl 5 20 = some (5, 1, false) := rfl
theorem f_5_28 : q_fl 5 28 = some (5, 2, false) := rfl
theorem f_4_122 : q_fl 4 122 = some (5, 2, true) := rfl
theorem f_5_34 : q_fl 5 34 = some (5, 3, false) := rfl
theorem f_4_132 : q_fl 4 132 = some (5, 3, true) := rfl
theorem f_5_37 : q_fl 5 37 = some (5, 4, false) := rfl
theorem f_4_135 : q_fl 4 135 = some (5, 4, true) := rfl
theorem f_5_60 : q_fl 5 60 = some (5, 5, false) := rfl
theorem f_5_63 : q_fl 5 63 = some (5, 6, false) := rfl
theorem f_5_66 : q_fl 5 66 = some (5, 7, false) := rfl
theorem f_5_69 : q_fl 5 69 = some (5, 8, false) := rfl
theorem f_4_9 : q_fl 4 9 = some (4, 0, false) := rfl
theorem f_7_129 : q_fl 7 129 = some (4, 0, true) := rfl
theorem f_4_15 : q_fl 4 15 = some (4, 1, false) := rfl
theorem f_7_137 : q_fl 7 137 = some (4, 1, true) := rfl
theorem f_4_18 : q_fl 4 18 = some (4, 2, false) := rfl
theorem f_7_147 : q_fl 7 147 = some (4, 2, true) := rfl
theorem f_4_21 : q_fl 4 21 = some (4, 3, false) := rfl
theorem f_7_150 : q_fl 7 150 = some (4, 3, true) := rfl
theorem f_4_29 : q_fl 4 29 = some (4, 4, false) := rfl
theorem f_4_35 : q_fl 4 35 = some (4, 5, false) := rfl
theorem f_4_50 : q_fl 4 50 = some (4, 6, false) := rfl
theorem f_7_123 : q_fl 7 123 = some (4, 6, true) := rfl
theorem f_4_53 : q_fl 4 53 = some (4, 7, false) := rfl
theorem f_7_126 : q_fl 7 126 = some (4, 7, true) := rfl
theorem f_4_56 : q_fl 4 56 = some (4, 8, false) := rfl
theorem f_4_63 : q_fl 4 63 = some (4, 9, false) := rfl
theorem f_7_114 : q_fl 7 114 = some (4, 9, true) := rfl
theorem f_7_12 : q_fl 7 12 = some (7, 0, false) := rfl
theorem f_7_31 : q_fl 7 31 = some (7, 1, false) := rfl
theorem f_7_19 : q_fl 7 19 = some (7, 2, false) := rfl
theorem f_7_23 : q_fl 7 23 = some (7, 3, false) := rfl
theorem f_7_35 : q_fl 7 35 = some (7, 4, false) := rfl
theorem f_7_39 : q_fl 7 39 = some (7, 5, false) := rfl
theorem f_8_90 : q_fl 8 90 = some (8, 0, false) := rfl
theorem f_8_94 : q_fl 8 94 = some (8, 1, false) := rfl
theorem f_8_7 : q_fl 8 7 = some (8, 2, false) := rfl
theorem f_8_13 : q_fl 8 13 = some (8, 3, false) := rfl
theorem f_8_230 : q_fl 8 230 = some (8, 4, false) := rfl
theorem f_8_233 : q_fl 8 233 = some (8, 5, false) := rfl
theorem f_8_113 : q_fl 8 113 = some (8, 6, false) := rfl
theorem f_8_105 : q_fl 8 105 = some (8, 7, false) := rfl
theorem f_8_16 : q_fl 8 16 = some (8, 8, false) := rfl
theorem f_8_19 : q_fl 8 19 = some (8, 9, false) := rfl
theorem f_8_22 : q_fl 8 22 = some (8, 10, false) := rfl
theorem f_8_25 : q_fl 8 25 = some (8, 11, false) := rfl
theorem f_8_28 : q_fl 8 28 = some (8, 12, false) := rfl
theorem f_8_31 : q_fl 8 31 = some (8, 13, false) := rfl
theorem f_8_35 : q_fl 8 35 = some (8, 14, false) := rfl
theorem f_8_38 : q_fl 8 38 = some (8, 15, false) := rfl
theorem f_8_41 : q_fl 8 41 = some (8, 16, false) := rfl
theorem f_8_44 : q_fl 8 44 = some (8, 17, false) := rfl
theorem f_8_47 : q_fl 8 47 = some (8, 18, false) := rfl
theorem f_8_50 : q_fl 8 50 = some (8, 19, false) := rfl
theorem f_8_53 : q_fl 8 53 = some (8, 20, false) := rfl
theorem f_8_56 : q_fl 8 56 = some (8, 21, false) := rfl
theorem f_8_59 : q_fl 8 59 = some (8, 22, false) := rfl
theorem f_8_62 : q_fl 8 62 = some (8, 23, false) := rfl
theorem f_8_65 : q_fl 8 65 = some (8, 24, false) := rfl
theorem f_8_68 : q_fl 8 68 = some (8, 25, false) := rfl
theorem f_8_71 : q_fl 8 71 = some (8, 26, false) := rfl
theorem f_8_74 : q_fl 8 74 = some (8, 27, false) := rfl
theorem f_8_77 : q_fl 8 77 = some (8, 28, false) := rfl
theorem f_8_80 : q_fl 8 80 = some (8, 29, false) := rfl
theorem f_8_247 : q_fl 8 247 = some (8, 30, false) := rfl
theorem f_8_250 : q_fl 8 250 = some (8, 31, false) := rfl
def q_kiL : List (Nat × Nat × Int32 × Nat) := [(3, 125, 1668112752, 452), (3, 130, 1735162214, 457), (3, 131, 1751474532, 458), (3, 132, 1751672161, 459), (3, 133, 1752003704, 460), (3, 134, 1819239265, 461), (3, 135, 1835104368, 462), (1, 70, 65535, 507), (12, 265, 1431655765, 566), (12, 266, 858993459, 567), (12, 267, 252645135, 568), (7, 92, 1114111, 735), (8, 83, 1668112752, 819), (8, 84, 1735162214, 820), (8, 85, 1751474532, 821), (8, 86, 1751672161, 822), (8, 87, 1752003704, 823), (8, 88, 1819239265, 824), (8, 89, 1835104368, 825), (8, 211, 65535, 1060), (8, 123, 65536, 1077), (8, 284, 32768, 1104), (8, 236, 1114111, 1122)]
def q_klL : List (Nat × Nat × Int64 × Nat) := [(3, 102, 65536, 428), (3, 104, 12, 429), (3, 110, (-1), 434), (3, 123, 4294967295, 447), (1, 32, 4, 480), (1, 56, 16, 491), (1, 58, 12, 492), (1, 60, (-1), 493), (1, 62, 1114111, 494), (1, 77, 4294967295, 745), (1, 82, 2, 754), (8, 124, 65536, 964), (8, 126, 2, 977), (8, 139, 4, 982), (8, 145, (-1), 983), (8, 147, 12, 984), (8, 149, 16, 985), (8, 151, 8, 986), (8, 153, 24, 995), (8, 155, 4294967295, 996), (8, 173, 18, 1005), (8, 167, 50, 1018), (8, 165, 34, 1027), (8, 203, 1114111, 1052), (8, 205, 6, 1057), (8, 207, 14, 1058), (8, 209, 3, 1059), (8, 270, 10, 1082), (8, 243, (-16384), 1094), (8, 245, 16383, 1095), (8, 289, 5, 1105), (8, 294, 16384, 1117)]
theorem q_kiL_ok : q_kiL.all (fun x => match q_ow[x.1]? with | some o => q_has x.2.2.2 (.constant o x.2.1 x.2.2.1) | none => false) = true := by decide +kernel
theorem q_klL_ok : q_klL.all (fun x => match q_ow[x.1]? with | some o => q_has x.2.2.2 (.constantLong o x.2.1 x.2.2.1) | none => false) = true := by decide +kernel
def q_ki (w j : Nat) : Option Int32 := (q_kiL.find? (fun x => x.1 == w && x.2.1 == j)).map (fun x => x.2.2.1)
def q_kl (w j : Nat) : Option Int64 := (q_klL.find? (fun x => x.1 == w && x.2.1 == j)).map (fun x => x.2.2.1)
theorem ki_3_125 : q_ki 3 125 = some 1668112752 := rfl
theorem ki_3_130 : q_ki 3 130 = some 1735162214 := rfl
theorem ki_3_131 : q_ki 3 131 = some 1751474532 := rfl
theorem ki_3_132 : q_ki 3 132 = some 1751672161 := rfl
theorem ki_3_133 : q_ki 3 133 = some 1752003704 := rfl
theorem ki_3_134 : q_ki 3 134 = some 1819239265 := rfl
theorem ki_3_135 : q_ki 3 135 = some 1835104368 := rfl
theorem ki_1_70 : q_ki 1 70 = some 65535 := rfl
theorem ki_12_265 : q_ki 12 265 = some 1431655765 := rfl
theorem ki_12_266 : q_ki 12 266 = some 858993459 := rfl
theorem ki_12_267 : q_ki 12 267 = some 252645135 := rfl
theorem ki_7_92 : q_ki 7 92 = some 1114111 := rfl
theorem ki_8_83 : q_ki 8 83 = some 1668112752 := rfl
theorem ki_8_84 : q_ki 8 84 = some 1735162214 := rfl
theorem ki_8_85 : q_ki 8 85 = some 1751474532 := rfl
theorem ki_8_86 : q_ki 8 86 = some 1751672161 := rfl
theorem ki_8_87 : q_ki 8 87 = some 1752003704 := rfl
theorem ki_8_88 : q_ki 8 88 = some 1819239265 := rfl
theorem ki_8_89 : q_ki 8 89 = some 1835104368 := rfl
theorem ki_8_211 : q_ki 8 211 = some 65535 := rfl
theorem ki_8_123 : q_ki 8 123 = some 65536 := rfl
theorem ki_8_284 : q_ki 8 284 = some 32768 := rfl
theorem ki_8_236 : q_ki 8 236 = some 1114111 := rfl
theorem kl_3_102 : q_kl 3 102 = some 65536 := rfl
theorem kl_3_104 : q_kl 3 104 = some 12 := rfl
theorem kl_3_110 : q_kl 3 110 = some (-1) := rfl
theorem kl_3_123 : q_kl 3 123 = some 4294967295 := rfl
theorem kl_1_32 : q_kl 1 32 = some 4 := rfl
theorem kl_1_56 : q_kl 1 56 = some 16 := rfl
theorem kl_1_58 : q_kl 1 58 = some 12 := rfl
theorem kl_1_60 : q_kl 1 60 = some (-1) := rfl
theorem kl_1_62 : q_kl 1 62 = some 1114111 := rfl
theorem kl_1_77 : q_kl 1 77 = some 4294967295 := rfl
theorem kl_1_82 : q_kl 1 82 = some 2 := rfl
theorem kl_8_124 : q_kl 8 124 = some 65536 := rfl
theorem kl_8_126 : q_kl 8 126 = some 2 := rfl
theorem kl_8_139 : q_kl 8 139 = some 4 := rfl
theorem kl_8_145 : q_kl 8 145 = some (-1) := rfl
theorem kl_8_147 : q_kl 8 147 = some 12 := rfl
theorem kl_8_149 : q_kl 8 149 = some 16 := rfl
theorem kl_8_151 : q_kl 8 151 = some 8 := rfl
theorem kl_8_153 : q_kl 8 153 = some 24 := rfl
theorem kl_8_155 : q_kl 8 155 = some 4294967295 := rfl
theorem kl_8_173 : q_kl 8 173 = some 18 := rfl
theorem kl_8_167 : q_kl 8 167 = some 50 := rfl
theorem kl_8_165 : q_kl 8 165 = some 34 := rfl
theorem kl_8_203 : q_kl 8 203 = some 1114111 := rfl
theorem kl_8_205 : q_kl 8 205 = some 6 := rfl
theorem kl_8_207 : q_kl 8 207 = some 14 := rfl
theorem kl_8_209 : q_kl 8 209 = some 3 := rfl
theorem kl_8_270 : q_kl 8 270 = some 10 := rfl
theorem kl_8_243 : q_kl 8 243 = some (-16384) := rfl
theorem kl_8_245 : q_kl 8 245 = some 16383 := rfl
theorem kl_8_289 : q_kl 8 289 = some 5 := rfl
theorem kl_8_294 : q_kl 8 294 = some 16384 := rfl
def q_cnL : List (Nat × Nat × Nat × Nat × Nat × Nat) := [(9, 8, 7, 93, 94, 74), (7, 9, 0, 101, 102, 75), (7, 16, 3, 121, 122, 76), (3, 9, 0, 127, 102, 75), (3, 18, 6, 129, 130, 77), (3, 51, 1, 149, 150, 78), (7, 26, 4, 220, 221, 79), (4, 24, 2, 226, 227, 80), (4, 33, 5, 248, 250, 81), (5, 9, 2, 255, 227, 80), (9, 37, 8, 813, 814, 82)]
def q_okN (x : Nat × Nat × Nat × Nat × Nat × Nat) : Bool := match q_ow[x.1]?, q_cl[x.2.2.1]? with
  | some o, some (C, _, N) => q_has x.2.2.2.1 (.classLink o x.2.1 C) && q_has x.2.2.2.2.1 (.instantiable C N) && q_has x.2.2.2.2.2 (.initialized C)
  | _, _ => false
theorem q_cnL_ok : q_cnL.all q_okN = true := by decide +kernel
def q_cn (w j : Nat) : Option Nat := (q_cnL.find? (fun x => x.1 == w && x.2.1 == j)).map (fun x => x.2.2.1)
theorem cn_9_8 : q_cn 9 8 = some 7 := rfl
theorem cn_7_9 : q_cn 7 9 = some 0 := rfl
theorem cn_7_16 : q_cn 7 16 = some 3 := rfl
theorem cn_3_9 : q_cn 3 9 = some 0 := rfl
theorem cn_3_18 : q_cn 3 18 = some 6 := rfl
theorem cn_3_51 : q_cn 3 51 = some 1 := rfl
theorem cn_7_26 : q_cn 7 26 = some 4 := rfl
theorem cn_4_24 : q_cn 4 24 = some 2 := rfl
theorem cn_4_33 : q_cn 4 33 = some 5 := rfl
theorem cn_5_9 : q_cn 5 9 = some 2 := rfl
theorem cn_9_37 : q_cn 9 37 = some 8 := rfl
def q_mlL0 : List (Nat × Nat × Nat × q_MT × Nat × List Nat) := [(9, 36, 0, M_FO_init, 1, [95, 96, 74]), (7, 11, 0, M_By_init, 1, [103, 104, 75]), (7, 18, 0, M_Fo_init, 1, [123, 124, 76]), (3, 11, 0, M_By_init, 1, [128, 104, 75]), (3, 20, 1, M_Ta_init, 1, [131, 132, 77]), (3, 53, 1, M_Cm_init, 1, [151, 152, 78]), (7, 28, 1, M_Ou_init, 1, [222, 223, 79]), (4, 26, 1, M_Cu_init, 1, [228, 229, 80]), (4, 39, 1, M_Pa_init, 1, [251, 252, 81]), (5, 11, 1, M_Cu_init, 1, [256, 229, 80]), (9, 40, 5, M_FO_feed, 0, [346, 347, 348, 74]), (7, 46, 1, M_By_makeRoom, 0, [350, 351, 352, 75]), (0, 28, 2, M_Ar_copyOf, 2, [360, 361, 84]), (7, 50, 1, M_By_addWord, 0, [374, 375, 376, 75]), (9, 55, 1, M_FO_at, 0, [378, 379, 380, 74]), (7, 65, 1, M_By_u8, 0, [382, 383, 384, 75]), (9, 63, 1, M_FO_load, 0, [386, 387, 388, 74]), (7, 75, 1, M_Fo_takeFile, 0, [390, 391, 392, 76]), (3, 60, 1, M_By_copy, 0, [394, 395, 396, 75]), (0, 34, 1, M_By_makeRoom, 0, [398, 351, 352, 75]), (3, 67, 2, M_Ta_lay, 0, [400, 401, 402, 77]), (7, 78, 1, M_Fo_firstWrong, 0, [404, 405, 406, 76]), (3, 71, 0, M_Fo_isFile, 0, [408, 410, 0, 76]), (3, 94, 0, M_Fo_tables, 0, [412, 414, 1, 76]), (3, 90, 1, M_Ta_u16, 0, [416, 417, 418, 77]), (6, 29, 1, M_Ta_u8, 0, [420, 421, 422, 77]), (3, 98, 1, M_Ta_u32, 0, [424, 425, 426, 77]), (3, 106, 2, M_Ta_holds, 0, [430, 431, 432, 77]), (3, 75, 0, M_Fo_hasSums, 0, [435, 437, 2, 76]), (3, 112, 2, M_Fo_layByEntry, 0, [439, 441, 3, 76]), (3, 116, 1, M_Fo_sum, 0, [443, 445, 4, 76]), (3, 78, 0, M_Fo_hasTables, 0, [448, 450, 5, 76]), (3, 126, 2, M_Fo_finds, 0, [453, 455, 6, 76]), (3, 81, 0, M_Fo_hasCounts, 0, [463, 465, 7, 76]), (3, 84, 0, M_Fo_hasPlaces, 0, [467, 469, 8, 76]), (3, 149, 1, M_Fo_dataPlace, 0, [471, 472, 473, 76]), (3, 87, 0, M_Cm_isFound, 0, [475, 476, 477, 78]), (1, 26, 1, M_Ta_u16, 0, [479, 417, 418, 77]), (1, 34, 2, M_Ta_holds, 0, [481, 431, 432, 77]), (1, 38, 2, M_Cm_firstEntry, 0, [482, 484, 9, 78]), (1, 42, 1, M_Ta_u32, 0, [486, 425, 426, 77]), (1, 49, 0, M_Cm_hasGroups, 0, [487, 489, 10, 78]), (1, 53, 0, M_Cm_hasSegments, 0, [495, 497, 11, 78]), (1, 64, 1, M_Cm_lastOf, 0, [499, 501, 12, 78]), (1, 67, 1, M_Cm_firstOf, 0, [503, 505, 13, 78]), (7, 82, 1, M_Ou_readsAll, 0, [508, 509, 510, 79]), (4, 46, 2, M_Ou_readGlyph, 0, [512, 513, 514, 79]), (4, 59, 3, M_Ou_addsGlyph, 0, [516, 518, 14, 79]), (4, 66, 1, M_Fo_dataPlace, 0, [520, 472, 473, 76]), (4, 74, 3, M_Cu_begin, 0, [521, 522, 523, 80]), (4, 78, 0, M_Cu_u16, 0, [526, 527, 528, 80]), (4, 82, 1, M_Cu_pass, 0, [530, 531, 532, 80]), (4, 91, 1, M_Cu_follow, 0, [534, 535, 536, 80]), (4, 95, 3, M_Ou_addsParts, 0, [538, 540, 15, 79]), (4, 118, 0, M_Pa_isRead, 0, [542, 543, 544, 81]), (5, 24, 0, M_Cu_u16, 0, [546, 527, 528, 80]), (5, 31, 0, M_Pa_number, 0, [547, 549, 16, 81]), (5, 53, 1, M_Pa_has, 0, [551, 552, 553, 81]), (5, 57, 0, M_Cu_u8, 0, [555, 556, 557, 80]), (5, 40, 0, M_Pa_readFactors, 0, [559, 561, 17, 81])]
def q_mlL1 : List (Nat × Nat × Nat × q_MT × Nat × List Nat) := [(5, 47, 1, M_In_bitCount, 2, [563, 564, 91]), (4, 125, 3, M_Ou_isLaid, 0, [569, 571, 18, 79]), (4, 129, 1, M_Pa_has, 0, [573, 552, 553, 81]), (4, 138, 2, M_Pa_turnedX, 0, [574, 575, 576, 81]), (4, 142, 2, M_Pa_turnedY, 0, [578, 579, 580, 81]), (4, 115, 1, M_Ou_isCoordinate, 0, [582, 584, 19, 79]), (4, 98, 1, M_Ou_addsSimple, 0, [586, 588, 20, 79]), (4, 102, 1, M_Ou_addsContours, 0, [590, 592, 21, 79]), (4, 105, 1, M_Ou_readsFlags, 0, [594, 596, 22, 79]), (4, 112, 0, M_Cu_u8, 0, [598, 556, 557, 80]), (4, 108, 4, M_Ou_readsAxis, 0, [599, 601, 23, 79]), (9, 7, 2, M_FO_put, 0, [608, 609, 610, 74]), (7, 69, 2, M_By_change, 0, [695, 696, 697, 75]), (9, 17, 1, M_FO_cut, 0, [702, 703, 704, 74]), (9, 21, 1, M_FO_glyph, 0, [711, 712, 713, 74]), (7, 89, 0, M_FO_needFont, 0, [715, 717, 25, 74]), (7, 99, 1, M_Cm_glyphOf, 0, [737, 738, 739, 78]), (1, 71, 1, M_Cm_glyphByGroups, 0, [741, 743, 26, 78]), (1, 74, 1, M_Cm_glyphBySegments, 0, [746, 748, 27, 78]), (1, 79, 2, M_Cm_glyphBySegment, 0, [750, 752, 28, 78]), (9, 26, 2, M_FO_measure, 0, [758, 759, 760, 74]), (7, 105, 1, M_FO_isGlyph, 0, [762, 764, 29, 74]), (7, 111, 1, M_FO_show, 0, [767, 769, 30, 74]), (7, 166, 2, M_Ou_readGlyph, 0, [771, 513, 514, 79]), (7, 117, 1, M_Fo_widthOf, 0, [772, 773, 774, 76]), (7, 120, 1, M_Fo_leftOf, 0, [777, 778, 779, 76]), (3, 158, 1, M_Ta_s16, 0, [781, 782, 783, 77]), (6, 33, 1, M_Ta_u16, 0, [785, 417, 418, 77]), (7, 133, 1, M_Ou_least, 0, [786, 787, 788, 79]), (7, 140, 1, M_Ou_greatest, 0, [791, 792, 793, 79]), (9, 29, 3, M_FO_point, 0, [799, 800, 801, 74]), (9, 33, 1, M_FO_font, 0, [808, 809, 810, 74]), (9, 39, 0, M_Mo_init, 1, [815, 816, 82]), (9, 51, 0, M_Mo_thrown, 0, [924, 925, 926, 82]), (9, 44, 5, M_Mo_feed, 0, [928, 929, 930, 82]), (8, 97, 1, M_Mo_put4, 0, [932, 934, 31, 82]), (9, 50, 2, M_Mo_put, 0, [936, 937, 938, 82]), (8, 101, 1, M_Mo_refused, 0, [940, 942, 32, 82]), (9, 58, 1, M_Mo_at, 0, [944, 945, 946, 82]), (9, 62, 1, M_Mo_cut, 0, [948, 949, 950, 82]), (9, 67, 1, M_Mo_load, 0, [952, 953, 954, 82]), (8, 215, 0, M_Mo_checkFile, 0, [956, 958, 33, 82]), (8, 135, 3, M_Mo_u32, 0, [960, 962, 34, 82]), (8, 120, 3, M_Mo_u16, 0, [965, 967, 35, 82]), (8, 116, 3, M_Mo_u8, 0, [969, 971, 36, 82]), (8, 109, 1, M_Mo_need, 0, [973, 975, 37, 82]), (8, 141, 0, M_Mo_tables, 0, [978, 980, 38, 82]), (8, 218, 0, M_Mo_checkSums, 0, [987, 989, 39, 82]), (8, 157, 2, M_Mo_sumOf, 0, [991, 993, 40, 82]), (8, 221, 0, M_Mo_findTables, 0, [997, 999, 41, 82]), (8, 224, 0, M_Mo_checkForms, 0, [1001, 1003, 42, 82]), (8, 161, 2, M_Mo_t16, 0, [1006, 1008, 43, 82]), (8, 128, 1, M_Mo_tableAt, 0, [1010, 1012, 44, 82]), (8, 132, 1, M_Mo_tableLength, 0, [1014, 1016, 45, 82]), (8, 175, 0, M_Mo_glyphCount, 0, [1019, 1021, 46, 82]), (8, 178, 0, M_Mo_longCount, 0, [1023, 1025, 47, 82]), (8, 181, 1, M_Mo_dataAt, 0, [1028, 1030, 48, 82]), (8, 169, 2, M_Mo_t32, 0, [1032, 1034, 49, 82]), (8, 185, 0, M_Mo_checkMap, 0, [1036, 1038, 50, 82]), (8, 192, 1, M_Mo_hasMap, 0, [1040, 1042, 51, 82])]
def q_mlL2 : List (Nat × Nat × Nat × q_MT × Nat × List Nat) := [(8, 188, 1, M_Mo_mapAt, 0, [1044, 1046, 52, 82]), (8, 196, 1, M_Mo_checkGroups, 0, [1048, 1050, 53, 82]), (8, 200, 1, M_Mo_checkSegments, 0, [1053, 1055, 54, 82]), (8, 227, 0, M_Mo_checkGlyphs, 0, [1061, 1063, 55, 82]), (8, 212, 1, M_Mo_readGlyph, 0, [1065, 1067, 56, 82]), (8, 253, 2, M_Mo_begin, 0, [1069, 1071, 57, 82]), (8, 263, 3, M_Mo_s16, 0, [1073, 1075, 58, 82]), (8, 266, 4, M_Mo_readSimple, 0, [1078, 1080, 59, 82]), (8, 272, 5, M_Mo_readFlags, 0, [1083, 1085, 60, 82]), (8, 276, 6, M_Mo_readSteps, 0, [1087, 1089, 61, 82]), (8, 280, 1, M_Mo_isCoordinate, 2, [1091, 1092, 82]), (8, 257, 1, M_Mo_readPart, 0, [1096, 1098, 62, 82]), (8, 285, 4, M_Mo_number, 0, [1100, 1102, 63, 82]), (8, 291, 2, M_Mo_f16, 0, [1106, 1108, 64, 82]), (8, 260, 1, M_Mo_join, 0, [1110, 1112, 65, 82]), (8, 296, 4, M_Mo_turned, 2, [1114, 1115, 82]), (9, 70, 1, M_Mo_glyph, 0, [1118, 1119, 1120, 82]), (8, 237, 1, M_Mo_groupGlyph, 0, [1123, 1125, 66, 82]), (8, 240, 1, M_Mo_segmentGlyph, 0, [1127, 1129, 67, 82]), (9, 73, 2, M_Mo_measure, 0, [1131, 1132, 1133, 82]), (8, 300, 1, M_Mo_isGlyph, 0, [1135, 1137, 68, 82]), (8, 303, 1, M_Mo_lends, 0, [1139, 1141, 69, 82]), (8, 306, 1, M_Mo_width, 0, [1143, 1145, 70, 82]), (8, 309, 1, M_Mo_left, 0, [1147, 1149, 71, 82]), (8, 312, 2, M_Mo_bound, 0, [1151, 1153, 72, 82]), (9, 77, 3, M_Mo_point, 0, [1155, 1156, 1157, 82]), (9, 80, 1, M_Mo_font, 0, [1159, 1160, 1161, 82])]
def q_mlL : List (Nat × Nat × Nat × q_MT × Nat × List Nat) := q_mlL0 ++ q_mlL1 ++ q_mlL2
def q_okL (x : Nat × Nat × Nat × q_MT × Nat × List Nat) : Bool := match q_ow[x.1]? with
  | some o => q_okM x.2.2.2.1 && decide ((parseMethodDescriptor (q_y x.2.2.2.1).desc).map (fun d => d.parameters.length) = some x.2.2.1) && (match x.2.2.2.2.1 with
    | 0 => q_hasL x.2.2.2.2.2 [.methodLink o x.2.1 (q_y x.2.2.2.1), .instanceMethod (q_y x.2.2.2.1), .selects (q_y x.2.2.2.1).cls (q_y x.2.2.2.1) (q_y x.2.2.2.1), .initialized (q_y x.2.2.2.1).cls]
    | 1 => q_hasL x.2.2.2.2.2 [.methodLink o x.2.1 (q_y x.2.2.2.1), .instanceMethod (q_y x.2.2.2.1), .initialized (q_y x.2.2.2.1).cls] && decide ((q_y x.2.2.2.1).name = "<init>") && decide (q_r x.2.2.2.1 = none)
    | _ => q_hasL x.2.2.2.2.2 [.methodLink o x.2.1 (q_y x.2.2.2.1), .static (q_y x.2.2.2.1), .initialized (q_y x.2.2.2.1).cls])
  | none => false
theorem q_mlL0_ok : q_mlL0.all q_okL = true := by decide +kernel
theorem q_mlL1_ok : q_mlL1.all q_okL = true := by decide +kernel
theorem q_mlL2_ok : q_mlL2.all q_okL = true := by decide +kernel
theorem q_mlL_ok : q_mlL.all q_okL = true := by
  unfold q_mlL
  simp only [List.all_append, q_mlL0_ok, q_mlL1_ok, q_mlL2_ok, Bool.and_self]
def q_ml (w j : Nat) : Option (Nat × q_MT × Nat) := (q_mlL.find? (fun x => x.1 == w && x.2.1 == j)).map (fun x => (x.2.2.1, x.2.2.2.1, x.2.2.2.2.1))
theorem ml_9_36 : q_ml 9 36 = some (0, M_FO_init, 1) := rfl
theorem ml_7_11 : q_ml 7 11 = some (0, M_By_init, 1) := rfl
theorem ml_7_18 : q_ml 7 18 = some (0, M_Fo_init, 1) := rfl
theorem ml_3_11 : q_ml 3 11 = some (0, M_By_init, 1) := rfl
theorem ml_3_20 : q_ml 3 20 = some (1, M_Ta_init, 1) := rfl
theorem ml_3_53 : q_ml 3 53 = some (1, M_Cm_init, 1) := rfl
theorem ml_7_28 : q_ml 7 28 = some (1, M_Ou_init, 1) := rfl
theorem ml_4_26 : q_ml 4 26 = some (1, M_Cu_init, 1) := rfl
theorem ml_4_39 : q_ml 4 39 = some (1, M_Pa_init, 1) := rfl
theorem ml_5_11 : q_ml 5 11 = some (1, M_Cu_init, 1) := rfl
theorem ml_9_40 : q_ml 9 40 = some (5, M_FO_feed, 0) := rfl
theorem ml_7_46 : q_ml 7 46 = some (1, M_By_makeRoom, 0) := rfl
theorem ml_0_28 : q_ml 0 28 = some (2, M_Ar_copyOf, 2) := rfl
theorem ml_7_50 : q_ml 7 50 = some (1, M_By_addWord, 0) := rfl
theorem ml_9_55 : q_ml 9 55 = some (1, M_FO_at, 0) := rfl
theorem ml_7_65 : q_ml 7 65 = some (1, M_By_u8, 0) := rfl
theorem ml_9_63 : q_ml 9 63 = some (1, M_FO_load, 0) := rfl
theorem ml_7_75 : q_ml 7 75 = some (1, M_Fo_takeFile, 0) := rfl
theorem ml_3_60 : q_ml 3 60 = some (1, M_By_copy, 0) := rfl
theorem ml_0_34 : q_ml 0 34 = some (1, M_By_makeRoom, 0) := rfl
theorem ml_3_67 : q_ml 3 67 = some (2, M_Ta_lay, 0) := rfl
theorem ml_7_78 : q_ml 7 78 = some (1, M_Fo_firstWrong, 0) := rfl
theorem ml_3_71 : q_ml 3 71 = some (0, M_Fo_isFile, 0) := rfl
theorem ml_3_94 : q_ml 3 94 = some (0, M_Fo_tables, 0) := rfl
theorem ml_3_90 : q_ml 3 90 = some (1, M_Ta_u16, 0) := rfl
theorem ml_6_29 : q_ml 6 29 = some (1, M_Ta_u8, 0) := rfl
theorem ml_3_98 : q_ml 3 98 = some (1, M_Ta_u32, 0) := rfl
theorem ml_3_106 : q_ml 3 106 = some (2, M_Ta_holds, 0) := rfl
theorem ml_3_75 : q_ml 3 75 = some (0, M_Fo_hasSums, 0) := rfl
theorem ml_3_112 : q_ml 3 112 = some (2, M_Fo_layByEntry, 0) := rfl
theorem ml_3_116 : q_ml 3 116 = some (1, M_Fo_sum, 0) := rfl
theorem ml_3_78 : q_ml 3 78 = some (0, M_Fo_hasTables, 0) := rfl
theorem ml_3_126 : q_ml 3 126 = some (2, M_Fo_finds, 0) := rfl
theorem ml_3_81 : q_ml 3 81 = some (0, M_Fo_hasCounts, 0) := rfl
theorem ml_3_84 : q_ml 3 84 = some (0, M_Fo_hasPlaces, 0) := rfl
theorem ml_3_149 : q_ml 3 149 = some (1, M_Fo_dataPlace, 0) := rfl
theorem ml_3_87 : q_ml 3 87 = some (0, M_Cm_isFound, 0) := rfl
theorem ml_1_26 : q_ml 1 26 = some (1, M_Ta_u16, 0) := rfl
theorem ml_1_34 : q_ml 1 34 = some (2, M_Ta_holds, 0) := rfl
theorem ml_1_38 : q_ml 1 38 = some (2, M_Cm_firstEntry, 0) := rfl
theorem ml_1_42 : q_ml 1 42 = some (1, M_Ta_u32, 0) := rfl
theorem ml_1_49 : q_ml 1 49 = some (0, M_Cm_hasGroups, 0) := rfl
theorem ml_1_53 : q_ml 1 53 = some (0, M_Cm_hasSegments, 0) := rfl
theorem ml_1_64 : q_ml 1 64 = some (1, M_Cm_lastOf, 0) := rfl
theorem ml_1_67 : q_ml 1 67 = some (1, M_Cm_firstOf, 0) := rfl
theorem ml_7_82 : q_ml 7 82 = some (1, M_Ou_readsAll, 0) := rfl
theorem ml_4_46 : q_ml 4 46 = some (2, M_Ou_readGlyph, 0) := rfl
theorem ml_4_59 : q_ml 4 59 = some (3, M_Ou_addsGlyph, 0) := rfl
theorem ml_4_66 : q_ml 4 66 = some (1, M_Fo_dataPlace, 0) := rfl
theorem ml_4_74 : q_ml 4 74 = some (3, M_Cu_begin, 0) := rfl
theorem ml_4_78 : q_ml 4 78 = some (0, M_Cu_u16, 0) := rfl
theorem ml_4_82 : q_ml 4 82 = some (1, M_Cu_pass, 0) := rfl
theorem ml_4_91 : q_ml 4 91 = some (1, M_Cu_follow, 0) := rfl
theorem ml_4_95 : q_ml 4 95 = some (3, M_Ou_addsParts, 0) := rfl
theorem ml_4_118 : q_ml 4 118 = some (0, M_Pa_isRead, 0) := rfl
theorem ml_5_24 : q_ml 5 24 = some (0, M_Cu_u16, 0) := rfl
theorem ml_5_31 : q_ml 5 31 = some (0, M_Pa_number, 0) := rfl
theorem ml_5_53 : q_ml 5 53 = some (1, M_Pa_has, 0) := rfl
theorem ml_5_57 : q_ml 5 57 = some (0, M_Cu_u8, 0) := rfl
theorem ml_5_40 : q_ml 5 40 = some (0, M_Pa_readFactors, 0) := rfl
theorem ml_5_47 : q_ml 5 47 = some (1, M_In_bitCount, 2) := rfl
theorem ml_4_125 : q_ml 4 125 = some (3, M_Ou_isLaid, 0) := rfl
theorem ml_4_129 : q_ml 4 129 = some (1, M_Pa_has, 0) := rfl
theorem ml_4_138 : q_ml 4 138 = some (2, M_Pa_turnedX, 0) := rfl
theorem ml_4_142 : q_ml 4 142 = some (2, M_Pa_turnedY, 0) := rfl
theorem ml_4_115 : q_ml 4 115 = some (1, M_Ou_isCoordinate, 0) := rfl
theorem ml_4_98 : q_ml 4 98 = some (1, M_Ou_addsSimple, 0) := rfl
theorem ml_4_102 : q_ml 4 102 = some (1, M_Ou_addsContours, 0) := rfl
theorem ml_4_105 : q_ml 4 105 = some (1, M_Ou_readsFlags, 0) := rfl
theorem ml_4_112 : q_ml 4 112 = some (0, M_Cu_u8, 0) := rfl
theorem ml_4_108 : q_ml 4 108 = some (4, M_Ou_readsAxis, 0) := rfl
theorem ml_9_7 : q_ml 9 7 = some (2, M_FO_put, 0) := rfl
theorem ml_7_69 : q_ml 7 69 = some (2, M_By_change, 0) := rfl
theorem ml_9_17 : q_ml 9 17 = some (1, M_FO_cut, 0) := rfl
theorem ml_9_21 : q_ml 9 21 = some (1, M_FO_glyph, 0) := rfl
theorem ml_7_89 : q_ml 7 89 = some (0, M_FO_needFont, 0) := rfl
theorem ml_7_99 : q_ml 7 99 = some (1, M_Cm_glyphOf, 0) := rfl
theorem ml_1_71 : q_ml 1 71 = some (1, M_Cm_glyphByGroups, 0) := rfl
theorem ml_1_74 : q_ml 1 74 = some (1, M_Cm_glyphBySegments, 0) := rfl
theorem ml_1_79 : q_ml 1 79 = some (2, M_Cm_glyphBySegment, 0) := rfl
theorem ml_9_26 : q_ml 9 26 = some (2, M_FO_measure, 0) := rfl
theorem ml_7_105 : q_ml 7 105 = some (1, M_FO_isGlyph, 0) := rfl
theorem ml_7_111 : q_ml 7 111 = some (1, M_FO_show, 0) := rfl
theorem ml_7_166 : q_ml 7 166 = some (2, M_Ou_readGlyph, 0) := rfl
theorem ml_7_117 : q_ml 7 117 = some (1, M_Fo_widthOf, 0) := rfl
theorem ml_7_120 : q_ml 7 120 = some (1, M_Fo_leftOf, 0) := rfl
theorem ml_3_158 : q_ml 3 158 = some (1, M_Ta_s16, 0) := rfl
theorem ml_6_33 : q_ml 6 33 = some (1, M_Ta_u16, 0) := rfl
theorem ml_7_133 : q_ml 7 133 = some (1, M_Ou_least, 0) := rfl
theorem ml_7_140 : q_ml 7 140 = some (1, M_Ou_greatest, 0) := rfl
theorem ml_9_29 : q_ml 9 29 = some (3, M_FO_point, 0) := rfl
theorem ml_9_33 : q_ml 9 33 = some (1, M_FO_font, 0) := rfl
theorem ml_9_39 : q_ml 9 39 = some (0, M_Mo_init, 1) := rfl
theorem ml_9_51 : q_ml 9 51 = some (0, M_Mo_thrown, 0) := rfl
theorem ml_9_44 : q_ml 9 44 = some (5, M_Mo_feed, 0) := rfl
theorem ml_8_97 : q_ml 8 97 = some (1, M_Mo_put4, 0) := rfl
theorem ml_9_50 : q_ml 9 50 = some (2, M_Mo_put, 0) := rfl
theorem ml_8_101 : q_ml 8 101 = some (1, M_Mo_refused, 0) := rfl
theorem ml_9_58 : q_ml 9 58 = some (1, M_Mo_at, 0) := rfl
theorem ml_9_62 : q_ml 9 62 = some (1, M_Mo_cut, 0) := rfl
theorem ml_9_67 : q_ml 9 67 = some (1, M_Mo_load, 0) := rfl
theorem ml_8_215 : q_ml 8 215 = some (0, M_Mo_checkFile, 0) := rfl
theorem ml_8_135 : q_ml 8 135 = some (3, M_Mo_u32, 0) := rfl
theorem ml_8_120 : q_ml 8 120 = some (3, M_Mo_u16, 0) := rfl
theorem ml_8_116 : q_ml 8 116 = some (3, M_Mo_u8, 0) := rfl
theorem ml_8_109 : q_ml 8 109 = some (1, M_Mo_need, 0) := rfl
theorem ml_8_141 : q_ml 8 141 = some (0, M_Mo_tables, 0) := rfl
theorem ml_8_218 : q_ml 8 218 = some (0, M_Mo_checkSums, 0) := rfl
theorem ml_8_157 : q_ml 8 157 = some (2, M_Mo_sumOf, 0) := rfl
theorem ml_8_221 : q_ml 8 221 = some (0, M_Mo_findTables, 0) := rfl
theorem ml_8_224 : q_ml 8 224 = some (0, M_Mo_checkForms, 0) := rfl
theorem ml_8_161 : q_ml 8 161 = some (2, M_Mo_t16, 0) := rfl
theorem ml_8_128 : q_ml 8 128 = some (1, M_Mo_tableAt, 0) := rfl
theorem ml_8_132 : q_ml 8 132 = some (1, M_Mo_tableLength, 0) := rfl
theorem ml_8_175 : q_ml 8 175 = some (0, M_Mo_glyphCount, 0) := rfl
theorem ml_8_178 : q_ml 8 178 = some (0, M_Mo_longCount, 0) := rfl
theorem ml_8_181 : q_ml 8 181 = some (1, M_Mo_dataAt, 0) := rfl
theorem ml_8_169 : q_ml 8 169 = some (2, M_Mo_t32, 0) := rfl
theorem ml_8_185 : q_ml 8 185 = some (0, M_Mo_checkMap, 0) := rfl
theorem ml_8_192 : q_ml 8 192 = some (1, M_Mo_hasMap, 0) := rfl
theorem ml_8_188 : q_ml 8 188 = some (1, M_Mo_mapAt, 0) := rfl
theorem ml_8_196 : q_ml 8 196 = some (1, M_Mo_checkGroups, 0) := rfl
theorem ml_8_200 : q_ml 8 200 = some (1, M_Mo_checkSegments, 0) := rfl
theorem ml_8_227 : q_ml 8 227 = some (0, M_Mo_checkGlyphs, 0) := rfl
theorem ml_8_212 : q_ml 8 212 = some (1, M_Mo_readGlyph, 0) := rfl
theorem ml_8_253 : q_ml 8 253 = some (2, M_Mo_begin, 0) := rfl
theorem ml_8_263 : q_ml 8 263 = some (3, M_Mo_s16, 0) := rfl
theorem ml_8_266 : q_ml 8 266 = some (4, M_Mo_readSimple, 0) := rfl
theorem ml_8_272 : q_ml 8 272 = some (5, M_Mo_readFlags, 0) := rfl
theorem ml_8_276 : q_ml 8 276 = some (6, M_Mo_readSteps, 0) := rfl
theorem ml_8_280 : q_ml 8 280 = some (1, M_Mo_isCoordinate, 2) := rfl
theorem ml_8_257 : q_ml 8 257 = some (1, M_Mo_readPart, 0) := rfl
theorem ml_8_285 : q_ml 8 285 = some (4, M_Mo_number, 0) := rfl
theorem ml_8_291 : q_ml 8 291 = some (2, M_Mo_f16, 0) := rfl
theorem ml_8_260 : q_ml 8 260 = some (1, M_Mo_join, 0) := rfl
theorem ml_8_296 : q_ml 8 296 = some (4, M_Mo_turned, 2) := rfl
theorem ml_9_70 : q_ml 9 70 = some (1, M_Mo_glyph, 0) := rfl
theorem ml_8_237 : q_ml 8 237 = some (1, M_Mo_groupGlyph, 0) := rfl
theorem ml_8_240 : q_ml 8 240 = some (1, M_Mo_segmentGlyph, 0) := rfl
theorem ml_9_73 : q_ml 9 73 = some (2, M_Mo_measure, 0) := rfl
theorem ml_8_300 : q_ml 8 300 = some (1, M_Mo_isGlyph, 0) := rfl
theorem ml_8_303 : q_ml 8 303 = some (1, M_Mo_lends, 0) := rfl
theorem ml_8_306 : q_ml 8 306 = some (1, M_Mo_width, 0) := rfl
theorem ml_8_309 : q_ml 8 309 = some (1, M_Mo_left, 0) := rfl
theorem ml_8_312 : q_ml 8 312 = some (2, M_Mo_bound, 0) := rfl
theorem ml_9_77 : q_ml 9 77 = some (3, M_Mo_point, 0) := rfl
theorem ml_9_80 : q_ml 9 80 = some (1, M_Mo_font, 0) := rfl
def q_mmL : List (Nat × Nat × Bool × Nat) := [(0, 19, true, 354), (0, 25, false, 357), (11, 304, false, 370), (2, 35, false, 525), (3, 152, false, 776), (4, 145, false, 790), (4, 150, true, 795)]
theorem q_mmL_ok : q_mmL.all (fun x => match q_ow[x.1]? with | some o => q_has x.2.2.2 (.methodLink o x.2.1 (if x.2.2.1 then Lib.Math.max.name else Lib.Math.min.name)) | none => false) = true := by decide +kernel
def q_mm (w j : Nat) : Option Bool := (q_mmL.find? (fun x => x.1 == w && x.2.1 == j)).map (fun x => x.2.2.1)
theorem mm_0_19 : q_mm 0 19 = some true := rfl
theorem mm_0_25 : q_mm 0 25 = some false := rfl
theorem mm_11_304 : q_mm 11 304 = some false := rfl
theorem mm_2_35 : q_mm 2 35 = some false := rfl
theorem mm_3_152 : q_mm 3 152 = some false := rfl
theorem mm_4_145 : q_mm 4 145 = some false := rfl
theorem mm_4_150 : q_mm 4 150 = some true := rfl
theorem q_st_max : Cond.static Lib.Math.max.name ∈ q_tbl := q_has_in (i := 355) (by decide +kernel)
theorem q_co_max : Cond.code Lib.Math.max.name Lib.Math.max.code 2 (some .int) ∈ q_tbl := q_has_in (i := 356) (by decide +kernel)
theorem q_st_min : Cond.static Lib.Math.min.name ∈ q_tbl := q_has_in (i := 358) (by decide +kernel)
theorem q_co_min : Cond.code Lib.Math.min.name Lib.Math.min.code 2 (some .int) ∈ q_tbl := q_has_in (i := 359) (by decide +kernel)
theorem q_in_Math : Cond.initialized "java/lang/Math" ∈ q_tbl := q_has_in (i := 83) (by decide +kernel)
def q_acL : List (Nat × Nat × Nat) := [(11, 150, 371), (0, 38, 399)]
theorem q_acL_ok : q_acL.all (fun x => match q_ow[x.1]? with | some o => q_has x.2.2 (.methodLink o x.2.1 arraycopyName) | none => false) = true := by decide +kernel
def q_ac (w j : Nat) : Bool := q_acL.any (fun x => x.1 == w && x.2.1 == j)
theorem ac_11_150 : q_ac 11 150 = true := rfl
theorem ac_0_38 : q_ac 0 38 = true := rfl
theorem q_st_ac : Cond.static arraycopyName ∈ q_tbl := q_has_in (i := 372) (by decide +kernel)
theorem q_na_ac : Cond.native arraycopyName ∈ q_tbl := q_has_in (i := 373) (by decide +kernel)
theorem q_in_Sys : Cond.initialized "java/lang/System" ∈ q_tbl := q_has_in (i := 85) (by decide +kernel)
def q_oiL : List (Nat × Nat × Nat) := [(7, 3, 98), (0, 3, 106), (3, 3, 126), (6, 1, 134), (1, 3, 154), (4, 3, 225), (2, 1, 231), (5, 3, 254), (8, 1, 818)]
theorem q_oiL_ok : q_oiL.all (fun x => match q_ow[x.1]? with | some o => q_has x.2.2 (.methodLink o x.2.1 Lib.objectInit) | none => false) = true := by decide +kernel
def q_oi (w j : Nat) : Bool := q_oiL.any (fun x => x.1 == w && x.2.1 == j)
theorem oi_7_3 : q_oi 7 3 = true := rfl
theorem oi_0_3 : q_oi 0 3 = true := rfl
theorem oi_3_3 : q_oi 3 3 = true := rfl
theorem oi_6_1 : q_oi 6 1 = true := rfl
theorem oi_1_3 : q_oi 1 3 = true := rfl
theorem oi_4_3 : q_oi 4 3 = true := rfl
theorem oi_2_1 : q_oi 2 1 = true := rfl
theorem oi_5_3 : q_oi 5 3 = true := rfl
theorem oi_8_1 : q_oi 8 1 = true := rfl
def q_anL : List (Nat × Nat × Nat) := [(4, 33, 248)]
theorem q_anL_ok : q_anL.all (fun x => match q_ow[x.1]? with | some o => q_has x.2.2 (.classLink o x.2.1 "FontOutlines$Part") | none => false) = true := by decide +kernel
def q_an (w j : Nat) : Bool := q_anL.any (fun x => x.1 == w && x.2.1 == j)
theorem an_4_33 : q_an 4 33 = true := rfl
theorem q_ao : Cond.arrayOver (.object "FontOutlines$Part") ∈ lw_tbl := List.mem_of_getElem? (i := 249) (by decide +kernel)
theorem q_oIn : Cond.instanceMethod Lib.objectInit ∈ q_tbl := q_has_in (i := 99) (by decide +kernel)
theorem q_oCo : Cond.code Lib.objectInit ⟨#[0xb1]⟩ 1 none ∈ q_tbl := q_has_in (i := 100) (by decide +kernel)
theorem q_ac_int : Cond.arrayClass .int ∈ q_tbl := q_has_in (i := 247) (by decide +kernel)
theorem q_ac_byte : Cond.arrayClass .byte ∈ q_tbl := q_has_in (i := 120) (by decide +kernel)
theorem q_ac_long : Cond.arrayClass .long ∈ q_tbl := q_has_in (i := 1163) (by decide +kernel)
theorem q_ac_boolean : Cond.arrayClass .boolean ∈ q_tbl := q_has_in (i := 923) (by decide +kernel)

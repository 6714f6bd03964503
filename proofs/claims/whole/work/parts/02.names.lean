def R_DF : String := "DrawingForms"
def R_PI : String := "DrawingForms$Picture"
def R_BR : String := "DrawingForms$ByteRow"
def R_PL : String := "DrawingForms$PartList"
def R_TE : String := "DrawingForms$Teller"
def R_DR : String := "DrawingForms$DrawingReader"
def R_CH : String := "DrawingForms$Changes"
def R_AR : String := "java/util/Arrays"
def R_MO : String := "DrawingFormsModel"
def R_LW : String := "DrawingFormsLaw"
def F_PI : u_T := fun k => match k with
  | 0 => ("DrawingForms$Picture", "width", "I", true)
  | 1 => ("DrawingForms$Picture", "height", "I", true)
  | _ => ("DrawingForms$Picture", "values", "[I", true)
def t_PI : Nat → FieldType := fun k => match k with
  | 0 => .int
  | 1 => .int
  | _ => .array .int
theorem n_PI : ∀ a, a < 3 → ∀ b, b < 3 → a ≠ b → (F_PI a).2.1 ≠ (F_PI b).2.1 := by decide +kernel
theorem t_PI_ok : ∀ k, k < 3 → parseFieldDescriptor (F_PI k).2.2.1 = some (t_PI k) := by decide +kernel
theorem df_PI : ∀ j, j < 3 → defaultValue (t_PI j) = vp_V [.int 0, .int 0, .null] j := by decide +kernel
def F_BR : u_T := fun k => match k with
  | 0 => ("DrawingForms$ByteRow", "bytes", "[I", true)
  | _ => ("DrawingForms$ByteRow", "count", "I", false)
def t_BR : Nat → FieldType := fun k => match k with
  | 0 => .array .int
  | _ => .int
theorem n_BR : ∀ a, a < 2 → ∀ b, b < 2 → a ≠ b → (F_BR a).2.1 ≠ (F_BR b).2.1 := by decide +kernel
theorem t_BR_ok : ∀ k, k < 2 → parseFieldDescriptor (F_BR k).2.2.1 = some (t_BR k) := by decide +kernel
theorem df_BR : ∀ j, j < 2 → defaultValue (t_BR j) = vp_V [.null, .int 0] j := by decide +kernel
def F_PL : u_T := fun k => match k with
  | 0 => ("DrawingForms$PartList", "fields", "[I", true)
  | 1 => ("DrawingForms$PartList", "count", "I", false)
  | _ => ("DrawingForms$PartList", "byteLength", "I", false)
def t_PL : Nat → FieldType := fun k => match k with
  | 0 => .array .int
  | 1 => .int
  | _ => .int
theorem n_PL : ∀ a, a < 3 → ∀ b, b < 3 → a ≠ b → (F_PL a).2.1 ≠ (F_PL b).2.1 := by decide +kernel
theorem t_PL_ok : ∀ k, k < 3 → parseFieldDescriptor (F_PL k).2.2.1 = some (t_PL k) := by decide +kernel
theorem df_PL : ∀ j, j < 3 → defaultValue (t_PL j) = vp_V [.null, .int 0, .int 0] j := by decide +kernel
def F_TE : u_T := fun k => match k with
  | 0 => ("DrawingForms$Teller", "open", "[Z", true)
  | 1 => ("DrawingForms$Teller", "counts", "[I", true)
  | 2 => ("DrawingForms$Teller", "found", "LDrawingForms$PartList;", true)
  | _ => ("DrawingForms$Teller", "plain", "Z", false)
def t_TE : Nat → FieldType := fun k => match k with
  | 0 => .array .boolean
  | 1 => .array .int
  | 2 => .object "DrawingForms$PartList"
  | _ => .boolean
theorem n_TE : ∀ a, a < 4 → ∀ b, b < 4 → a ≠ b → (F_TE a).2.1 ≠ (F_TE b).2.1 := by decide +kernel
theorem t_TE_ok : ∀ k, k < 4 → parseFieldDescriptor (F_TE k).2.2.1 = some (t_TE k) := by decide +kernel
theorem df_TE : ∀ j, j < 4 → defaultValue (t_TE j) = vp_V [.null, .null, .null, .int 0] j := by decide +kernel
def F_DF : u_T := fun k => match k with
  | 0 => ("DrawingForms", "teller", "LDrawingForms$Teller;", true)
  | 1 => ("DrawingForms", "toldBytes", "LDrawingForms$ByteRow;", true)
  | 2 => ("DrawingForms", "toRead", "LDrawingForms$ByteRow;", true)
  | 3 => ("DrawingForms", "picture", "LDrawingForms$Picture;", false)
  | 4 => ("DrawingForms", "other", "LDrawingForms$Picture;", false)
  | _ => ("DrawingForms", "draft", "LDrawingForms$Picture;", false)
def t_DF : Nat → FieldType := fun k => match k with
  | 0 => .object "DrawingForms$Teller"
  | 1 => .object "DrawingForms$ByteRow"
  | 2 => .object "DrawingForms$ByteRow"
  | 3 => .object "DrawingForms$Picture"
  | 4 => .object "DrawingForms$Picture"
  | _ => .object "DrawingForms$Picture"
theorem n_DF : ∀ a, a < 6 → ∀ b, b < 6 → a ≠ b → (F_DF a).2.1 ≠ (F_DF b).2.1 := by decide +kernel
theorem t_DF_ok : ∀ k, k < 6 → parseFieldDescriptor (F_DF k).2.2.1 = some (t_DF k) := by decide +kernel
theorem df_DF : ∀ j, j < 6 → defaultValue (t_DF j) = vp_V [.null, .null, .null, .null, .null, .null] j := by decide +kernel
def F_MO : u_T := fun k => match k with
  | 0 => ("DrawingFormsModel", "wide", "I", true)
  | 1 => ("DrawingFormsModel", "high", "I", true)
  | 2 => ("DrawingFormsModel", "fault", "I", false)
  | 3 => ("DrawingFormsModel", "first", "[I", true)
  | 4 => ("DrawingFormsModel", "other", "[I", true)
  | 5 => ("DrawingFormsModel", "open", "[Z", true)
  | 6 => ("DrawingFormsModel", "read", "[I", true)
  | 7 => ("DrawingFormsModel", "toldSize", "I", false)
  | 8 => ("DrawingFormsModel", "toldBytes", "[I", true)
  | 9 => ("DrawingFormsModel", "fedSize", "I", false)
  | 10 => ("DrawingFormsModel", "fed", "[I", true)
  | 11 => ("DrawingFormsModel", "parts", "I", false)
  | 12 => ("DrawingFormsModel", "part", "[I", true)
  | 13 => ("DrawingFormsModel", "plain", "Z", false)
  | 14 => ("DrawingFormsModel", "best", "I", false)
  | 15 => ("DrawingFormsModel", "bestOne", "I", false)
  | 16 => ("DrawingFormsModel", "bestTwo", "I", false)
  | _ => ("DrawingFormsModel", "place", "I", false)
def t_MO : Nat → FieldType := fun k => match k with
  | 0 => .int
  | 1 => .int
  | 2 => .int
  | 3 => .array .int
  | 4 => .array .int
  | 5 => .array .boolean
  | 6 => .array .int
  | 7 => .int
  | 8 => .array .int
  | 9 => .int
  | 10 => .array .int
  | 11 => .int
  | 12 => .array .int
  | 13 => .boolean
  | 14 => .int
  | 15 => .int
  | 16 => .int
  | _ => .int
theorem n_MO : ∀ a, a < 18 → ∀ b, b < 18 → a ≠ b → (F_MO a).2.1 ≠ (F_MO b).2.1 := by decide +kernel
theorem t_MO_ok : ∀ k, k < 18 → parseFieldDescriptor (F_MO k).2.2.1 = some (t_MO k) := by decide +kernel
theorem df_MO : ∀ j, j < 18 → defaultValue (t_MO j) = vp_V [.int 0, .int 0, .int 0, .null, .null, .null, .null, .int 0, .null, .int 0, .null, .int 0, .null, .int 0, .int 0, .int 0, .int 0, .int 0] j := by decide +kernel
abbrev CL : List vw_C := [(R_PI, F_PI, 3), (R_BR, F_BR, 2), (R_PL, F_PL, 3), (R_TE, F_TE, 4), (R_DF, F_DF, 6), (R_MO, F_MO, 18)]
abbrev b_BR_init : ByteArray := prog_2_method_1_code
def y_BR_init : MethodName := ⟨R_BR, "<init>", "(I)V"⟩
abbrev b_BR_get : ByteArray := prog_2_method_2_code
def y_BR_get : MethodName := ⟨R_BR, "get", "(I)I"⟩
abbrev b_BR_add : ByteArray := prog_2_method_3_code
def y_BR_add : MethodName := ⟨R_BR, "add", "(I)V"⟩
abbrev b_BR_addAll : ByteArray := prog_2_method_4_code
def y_BR_addAll : MethodName := ⟨R_BR, "addAll", "(LDrawingForms$ByteRow;)V"⟩
abbrev b_BR_drop : ByteArray := prog_2_method_5_code
def y_BR_drop : MethodName := ⟨R_BR, "drop", "()V"⟩
abbrev b_CH_write : ByteArray := prog_3_method_2_code
def y_CH_write : MethodName := ⟨R_CH, "write", "(LDrawingForms$Picture;LDrawingForms$Picture;LDrawingForms$ByteRow;)V"⟩
abbrev b_CH_differing : ByteArray := prog_3_method_3_code
def y_CH_differing : MethodName := ⟨R_CH, "differing", "(LDrawingForms$Picture;LDrawingForms$Picture;II)I"⟩
abbrev b_CH_writeRun : ByteArray := prog_3_method_4_code
def y_CH_writeRun : MethodName := ⟨R_CH, "writeRun", "(LDrawingForms$Picture;IIILDrawingForms$ByteRow;)V"⟩
abbrev b_CH_read : ByteArray := prog_3_method_5_code
def y_CH_read : MethodName := ⟨R_CH, "read", "(LDrawingForms$ByteRow;LDrawingForms$Picture;)I"⟩
abbrev b_CH_readRun : ByteArray := prog_3_method_6_code
def y_CH_readRun : MethodName := ⟨R_CH, "readRun", "(LDrawingForms$ByteRow;ILDrawingForms$Picture;)I"⟩
abbrev b_DR_readDrawing : ByteArray := prog_4_method_2_code
def y_DR_readDrawing : MethodName := ⟨R_DR, "readDrawing", "(LDrawingForms$ByteRow;LDrawingForms$Picture;)I"⟩
abbrev b_DR_readPlain : ByteArray := prog_4_method_3_code
def y_DR_readPlain : MethodName := ⟨R_DR, "readPlain", "(LDrawingForms$ByteRow;LDrawingForms$Picture;)I"⟩
abbrev b_DR_readParts : ByteArray := prog_4_method_4_code
def y_DR_readParts : MethodName := ⟨R_DR, "readParts", "(LDrawingForms$ByteRow;LDrawingForms$Picture;)I"⟩
abbrev b_DR_drawPart : ByteArray := prog_4_method_5_code
def y_DR_drawPart : MethodName := ⟨R_DR, "drawPart", "(LDrawingForms$ByteRow;ILDrawingForms$Picture;)Z"⟩
abbrev b_DR_drawRectangle : ByteArray := prog_4_method_6_code
def y_DR_drawRectangle : MethodName := ⟨R_DR, "drawRectangle", "(LDrawingForms$Picture;IIIII)Z"⟩
abbrev b_DR_drawCopy : ByteArray := prog_4_method_7_code
def y_DR_drawCopy : MethodName := ⟨R_DR, "drawCopy", "(LDrawingForms$Picture;IIIII)Z"⟩
abbrev b_PL_init : ByteArray := prog_5_method_1_code
def y_PL_init : MethodName := ⟨R_PL, "<init>", "(I)V"⟩
abbrev b_PL_add : ByteArray := prog_5_method_2_code
def y_PL_add : MethodName := ⟨R_PL, "add", "(IIIIII)V"⟩
abbrev b_PL_field : ByteArray := prog_5_method_3_code
def y_PL_field : MethodName := ⟨R_PL, "field", "(II)I"⟩
abbrev b_PL_writeTo : ByteArray := prog_5_method_4_code
def y_PL_writeTo : MethodName := ⟨R_PL, "writeTo", "(LDrawingForms$ByteRow;)V"⟩
abbrev b_PL_drop : ByteArray := prog_5_method_5_code
def y_PL_drop : MethodName := ⟨R_PL, "drop", "()V"⟩
abbrev b_PI_init : ByteArray := prog_6_method_1_code
def y_PI_init : MethodName := ⟨R_PI, "<init>", "(II)V"⟩
abbrev b_PI_has : ByteArray := prog_6_method_2_code
def y_PI_has : MethodName := ⟨R_PI, "has", "(II)Z"⟩
abbrev b_PI_holds : ByteArray := prog_6_method_3_code
def y_PI_holds : MethodName := ⟨R_PI, "holds", "(IIII)Z"⟩
abbrev b_PI_value : ByteArray := prog_6_method_4_code
def y_PI_value : MethodName := ⟨R_PI, "value", "(II)I"⟩
abbrev b_PI_paint : ByteArray := prog_6_method_5_code
def y_PI_paint : MethodName := ⟨R_PI, "paint", "(III)Z"⟩
abbrev b_PI_paintRectangle : ByteArray := prog_6_method_6_code
def y_PI_paintRectangle : MethodName := ⟨R_PI, "paintRectangle", "(IIIII)I"⟩
abbrev b_PI_paintAll : ByteArray := prog_6_method_7_code
def y_PI_paintAll : MethodName := ⟨R_PI, "paintAll", "(I)V"⟩
abbrev b_PI_paintCopy : ByteArray := prog_6_method_8_code
def y_PI_paintCopy : MethodName := ⟨R_PI, "paintCopy", "(IIIII)V"⟩
abbrev b_PI_takeFrom : ByteArray := prog_6_method_9_code
def y_PI_takeFrom : MethodName := ⟨R_PI, "takeFrom", "(LDrawingForms$Picture;)V"⟩
abbrev b_PI_differences : ByteArray := prog_6_method_10_code
def y_PI_differences : MethodName := ⟨R_PI, "differences", "(LDrawingForms$Picture;)I"⟩
abbrev b_TE_init : ByteArray := prog_7_method_1_code
def y_TE_init : MethodName := ⟨R_TE, "<init>", "(I)V"⟩
abbrev b_TE_forget : ByteArray := prog_7_method_2_code
def y_TE_forget : MethodName := ⟨R_TE, "forget", "()V"⟩
abbrev b_TE_tell : ByteArray := prog_7_method_3_code
def y_TE_tell : MethodName := ⟨R_TE, "tell", "(LDrawingForms$Picture;LDrawingForms$ByteRow;)V"⟩
abbrev b_TE_groundOf : ByteArray := prog_7_method_4_code
def y_TE_groundOf : MethodName := ⟨R_TE, "groundOf", "(LDrawingForms$Picture;)I"⟩
abbrev b_TE_writePlain : ByteArray := prog_7_method_5_code
def y_TE_writePlain : MethodName := ⟨R_TE, "writePlain", "(LDrawingForms$Picture;LDrawingForms$ByteRow;)V"⟩
abbrev b_TE_openAllBut : ByteArray := prog_7_method_6_code
def y_TE_openAllBut : MethodName := ⟨R_TE, "openAllBut", "(ILDrawingForms$Picture;)V"⟩
abbrev b_TE_isOpen : ByteArray := prog_7_method_7_code
def y_TE_isOpen : MethodName := ⟨R_TE, "isOpen", "(LDrawingForms$Picture;II)Z"⟩
abbrev b_TE_close : ByteArray := prog_7_method_8_code
def y_TE_close : MethodName := ⟨R_TE, "close", "(LDrawingForms$Picture;IIII)V"⟩
abbrev b_TE_findRectangles : ByteArray := prog_7_method_9_code
def y_TE_findRectangles : MethodName := ⟨R_TE, "findRectangles", "(LDrawingForms$Picture;)V"⟩
abbrev b_TE_takeRectangle : ByteArray := prog_7_method_10_code
def y_TE_takeRectangle : MethodName := ⟨R_TE, "takeRectangle", "(LDrawingForms$Picture;II)V"⟩
abbrev b_TE_openOfValue : ByteArray := prog_7_method_11_code
def y_TE_openOfValue : MethodName := ⟨R_TE, "openOfValue", "(LDrawingForms$Picture;III)I"⟩
abbrev b_TE_findCopiesAndRuns : ByteArray := prog_7_method_12_code
def y_TE_findCopiesAndRuns : MethodName := ⟨R_TE, "findCopiesAndRuns", "(LDrawingForms$Picture;)V"⟩
abbrev b_TE_takeCopyOrRun : ByteArray := prog_7_method_13_code
def y_TE_takeCopyOrRun : MethodName := ⟨R_TE, "takeCopyOrRun", "(LDrawingForms$Picture;II)V"⟩
abbrev b_TE_openAsCopied : ByteArray := prog_7_method_14_code
def y_TE_openAsCopied : MethodName := ⟨R_TE, "openAsCopied", "(LDrawingForms$Picture;IIII)I"⟩
abbrev b_DF_init : ByteArray := prog_1_method_1_code
def y_DF_init : MethodName := ⟨R_DF, "<init>", "(II)V"⟩
abbrev b_DF_swap : ByteArray := prog_1_method_6_code
def y_DF_swap : MethodName := ⟨R_DF, "swap", "()I"⟩
abbrev b_DF_encode : ByteArray := prog_1_method_7_code
def y_DF_encode : MethodName := ⟨R_DF, "encode", "()I"⟩
abbrev b_DF_parts : ByteArray := prog_1_method_9_code
def y_DF_parts : MethodName := ⟨R_DF, "parts", "()I"⟩
abbrev b_DF_isPlain : ByteArray := prog_1_method_11_code
def y_DF_isPlain : MethodName := ⟨R_DF, "isPlain", "()Z"⟩
abbrev b_DF_decode : ByteArray := prog_1_method_14_code
def y_DF_decode : MethodName := ⟨R_DF, "decode", "()I"⟩
abbrev b_DF_change : ByteArray := prog_1_method_15_code
def y_DF_change : MethodName := ⟨R_DF, "change", "()I"⟩
abbrev b_DF_apply : ByteArray := prog_1_method_16_code
def y_DF_apply : MethodName := ⟨R_DF, "apply", "()I"⟩
abbrev b_DF_told : ByteArray := prog_1_method_17_code
def y_DF_told : MethodName := ⟨R_DF, "told", "(I)I"⟩
abbrev b_DF_clear : ByteArray := prog_1_method_18_code
def y_DF_clear : MethodName := ⟨R_DF, "clear", "()V"⟩
abbrev b_DF_nearestSide : ByteArray := prog_1_method_19_code
def y_DF_nearestSide : MethodName := ⟨R_DF, "nearestSide", "(I)I"⟩
abbrev b_DF_refusedAt : ByteArray := prog_1_method_20_code
def y_DF_refusedAt : MethodName := ⟨R_DF, "refusedAt", "(I)I"⟩
abbrev b_DF_bytesOf : ByteArray := prog_1_method_21_code
def y_DF_bytesOf : MethodName := ⟨R_DF, "bytesOf", "(I)I"⟩
abbrev b_DF_takeDraft : ByteArray := prog_1_method_24_code
def y_DF_takeDraft : MethodName := ⟨R_DF, "takeDraft", "(I)I"⟩
abbrev b_AR_fill : ByteArray := prog_18_method_103_code
def y_AR_fill : MethodName := ⟨R_AR, "fill", "([II)V"⟩

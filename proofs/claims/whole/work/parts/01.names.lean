def R_Row : String := "LikelyBits$Row"
def T_Row : u_T := fun k => match k with
  | 0 => ("LikelyBits$Row", "cells", "[I", false)
  | _ => ("LikelyBits$Row", "used", "I", false)
def ty_Row : Nat → FieldType := fun k => match k with
  | 0 => .array .int
  | _ => .int
theorem nm_Row : ∀ a, a < 2 → ∀ b, b < 2 → a ≠ b → (T_Row a).2.1 ≠ (T_Row b).2.1 := by decide +kernel
theorem tyok_Row : ∀ k, k < 2 → parseFieldDescriptor (T_Row k).2.2.1 = some (ty_Row k) := by decide +kernel
def R_Cxt : String := "LikelyBits$Contexts"
def T_Cxt : u_T := fun k => match k with
  | 0 => ("LikelyBits$Contexts", "states", "[I", true)
  | _ => ("LikelyBits$Contexts", "likelyBits", "[I", true)
def ty_Cxt : Nat → FieldType := fun k => match k with
  | 0 => .array .int
  | _ => .array .int
theorem nm_Cxt : ∀ a, a < 2 → ∀ b, b < 2 → a ≠ b → (T_Cxt a).2.1 ≠ (T_Cxt b).2.1 := by decide +kernel
theorem tyok_Cxt : ∀ k, k < 2 → parseFieldDescriptor (T_Cxt k).2.2.1 = some (ty_Cxt k) := by decide +kernel
def R_Seg : String := "LikelyBits$Segment"
def T_Seg : u_T := fun k => match k with
  | 0 => ("LikelyBits$Segment", "row", "LLikelyBits$Row;", true)
  | _ => ("LikelyBits$Segment", "start", "I", false)
def ty_Seg : Nat → FieldType := fun k => match k with
  | 0 => .object "LikelyBits$Row"
  | _ => .int
theorem nm_Seg : ∀ a, a < 2 → ∀ b, b < 2 → a ≠ b → (T_Seg a).2.1 ≠ (T_Seg b).2.1 := by decide +kernel
theorem tyok_Seg : ∀ k, k < 2 → parseFieldDescriptor (T_Seg k).2.2.1 = some (ty_Seg k) := by decide +kernel
def R_Src : String := "LikelyBits$Source"
def T_Src : u_T := fun k => match k with
  | 0 => ("LikelyBits$Source", "row", "LLikelyBits$Row;", true)
  | 1 => ("LikelyBits$Source", "place", "I", false)
  | 2 => ("LikelyBits$Source", "length", "I", false)
  | _ => ("LikelyBits$Source", "came", "I", false)
def ty_Src : Nat → FieldType := fun k => match k with
  | 0 => .object "LikelyBits$Row"
  | 1 => .int
  | 2 => .int
  | _ => .int
theorem nm_Src : ∀ a, a < 4 → ∀ b, b < 4 → a ≠ b → (T_Src a).2.1 ≠ (T_Src b).2.1 := by decide +kernel
theorem tyok_Src : ∀ k, k < 4 → parseFieldDescriptor (T_Src k).2.2.1 = some (ty_Src k) := by decide +kernel
def R_CWr : String := "LikelyBits$CodedWriter"
def T_CWr : u_T := fun k => match k with
  | 0 => ("LikelyBits$CodedWriter", "segment", "LLikelyBits$Segment;", true)
  | 1 => ("LikelyBits$CodedWriter", "contexts", "LLikelyBits$Contexts;", true)
  | 2 => ("LikelyBits$CodedWriter", "low", "I", false)
  | 3 => ("LikelyBits$CodedWriter", "size", "I", false)
  | _ => ("LikelyBits$CodedWriter", "room", "I", false)
def ty_CWr : Nat → FieldType := fun k => match k with
  | 0 => .object "LikelyBits$Segment"
  | 1 => .object "LikelyBits$Contexts"
  | 2 => .int
  | 3 => .int
  | _ => .int
theorem nm_CWr : ∀ a, a < 5 → ∀ b, b < 5 → a ≠ b → (T_CWr a).2.1 ≠ (T_CWr b).2.1 := by decide +kernel
theorem tyok_CWr : ∀ k, k < 5 → parseFieldDescriptor (T_CWr k).2.2.1 = some (ty_CWr k) := by decide +kernel
def R_CRd : String := "LikelyBits$CodedReader"
def T_CRd : u_T := fun k => match k with
  | 0 => ("LikelyBits$CodedReader", "source", "LLikelyBits$Source;", true)
  | 1 => ("LikelyBits$CodedReader", "contexts", "LLikelyBits$Contexts;", true)
  | 2 => ("LikelyBits$CodedReader", "last", "I", false)
  | 3 => ("LikelyBits$CodedReader", "value", "I", false)
  | 4 => ("LikelyBits$CodedReader", "size", "I", false)
  | _ => ("LikelyBits$CodedReader", "room", "I", false)
def ty_CRd : Nat → FieldType := fun k => match k with
  | 0 => .object "LikelyBits$Source"
  | 1 => .object "LikelyBits$Contexts"
  | 2 => .int
  | 3 => .int
  | 4 => .int
  | _ => .int
theorem nm_CRd : ∀ a, a < 6 → ∀ b, b < 6 → a ≠ b → (T_CRd a).2.1 ≠ (T_CRd b).2.1 := by decide +kernel
theorem tyok_CRd : ∀ k, k < 6 → parseFieldDescriptor (T_CRd k).2.2.1 = some (ty_CRd k) := by decide +kernel
def R_RWr : String := "LikelyBits$RawWriter"
def T_RWr : u_T := fun k => match k with
  | 0 => ("LikelyBits$RawWriter", "segment", "LLikelyBits$Segment;", true)
  | _ => ("LikelyBits$RawWriter", "room", "I", false)
def ty_RWr : Nat → FieldType := fun k => match k with
  | 0 => .object "LikelyBits$Segment"
  | _ => .int
theorem nm_RWr : ∀ a, a < 2 → ∀ b, b < 2 → a ≠ b → (T_RWr a).2.1 ≠ (T_RWr b).2.1 := by decide +kernel
theorem tyok_RWr : ∀ k, k < 2 → parseFieldDescriptor (T_RWr k).2.2.1 = some (ty_RWr k) := by decide +kernel
def R_RRd : String := "LikelyBits$RawReader"
def T_RRd : u_T := fun k => match k with
  | 0 => ("LikelyBits$RawReader", "source", "LLikelyBits$Source;", true)
  | 1 => ("LikelyBits$RawReader", "last", "I", false)
  | _ => ("LikelyBits$RawReader", "left", "I", false)
def ty_RRd : Nat → FieldType := fun k => match k with
  | 0 => .object "LikelyBits$Source"
  | 1 => .int
  | _ => .int
theorem nm_RRd : ∀ a, a < 3 → ∀ b, b < 3 → a ≠ b → (T_RRd a).2.1 ≠ (T_RRd b).2.1 := by decide +kernel
theorem tyok_RRd : ∀ k, k < 3 → parseFieldDescriptor (T_RRd k).2.2.1 = some (ty_RRd k) := by decide +kernel
def R_LB : String := "LikelyBits"
def T_LB : u_T := fun k => match k with
  | 0 => ("LikelyBits", "row", "LLikelyBits$Row;", true)
  | 1 => ("LikelyBits", "writerContexts", "LLikelyBits$Contexts;", true)
  | 2 => ("LikelyBits", "readerContexts", "LLikelyBits$Contexts;", true)
  | 3 => ("LikelyBits", "segment", "LLikelyBits$Segment;", true)
  | 4 => ("LikelyBits", "codedWriter", "LLikelyBits$CodedWriter;", true)
  | 5 => ("LikelyBits", "rawWriter", "LLikelyBits$RawWriter;", true)
  | 6 => ("LikelyBits", "source", "LLikelyBits$Source;", true)
  | 7 => ("LikelyBits", "codedReader", "LLikelyBits$CodedReader;", true)
  | 8 => ("LikelyBits", "rawReader", "LLikelyBits$RawReader;", true)
  | 9 => ("LikelyBits", "segmentOpen", "Z", false)
  | 10 => ("LikelyBits", "segmentRaw", "Z", false)
  | 11 => ("LikelyBits", "sourceRead", "Z", false)
  | _ => ("LikelyBits", "sourceRaw", "Z", false)
def ty_LB : Nat → FieldType := fun k => match k with
  | 0 => .object "LikelyBits$Row"
  | 1 => .object "LikelyBits$Contexts"
  | 2 => .object "LikelyBits$Contexts"
  | 3 => .object "LikelyBits$Segment"
  | 4 => .object "LikelyBits$CodedWriter"
  | 5 => .object "LikelyBits$RawWriter"
  | 6 => .object "LikelyBits$Source"
  | 7 => .object "LikelyBits$CodedReader"
  | 8 => .object "LikelyBits$RawReader"
  | 9 => .boolean
  | 10 => .boolean
  | 11 => .boolean
  | _ => .boolean
theorem nm_LB : ∀ a, a < 13 → ∀ b, b < 13 → a ≠ b → (T_LB a).2.1 ≠ (T_LB b).2.1 := by decide +kernel
theorem tyok_LB : ∀ k, k < 13 → parseFieldDescriptor (T_LB k).2.2.1 = some (ty_LB k) := by decide +kernel
def R_Mdl : String := "LikelyBitsModel"
def T_Mdl : u_T := fun k => match k with
  | 0 => ("LikelyBitsModel", "part", "[I", true)
  | 1 => ("LikelyBitsModel", "other", "[I", true)
  | 2 => ("LikelyBitsModel", "thrown", "I", false)
  | 3 => ("LikelyBitsModel", "size", "I", false)
  | 4 => ("LikelyBitsModel", "bytes", "[I", true)
  | 5 => ("LikelyBitsModel", "states", "[I", true)
  | 6 => ("LikelyBitsModel", "likely", "[I", true)
  | 7 => ("LikelyBitsModel", "open", "Z", false)
  | 8 => ("LikelyBitsModel", "raw", "Z", false)
  | 9 => ("LikelyBitsModel", "begin", "I", false)
  | 10 => ("LikelyBitsModel", "low", "I", false)
  | 11 => ("LikelyBitsModel", "carried", "Z", false)
  | 12 => ("LikelyBitsModel", "wide", "I", false)
  | 13 => ("LikelyBitsModel", "room", "I", false)
  | 14 => ("LikelyBitsModel", "reading", "Z", false)
  | 15 => ("LikelyBitsModel", "rawRead", "Z", false)
  | 16 => ("LikelyBitsModel", "place", "I", false)
  | 17 => ("LikelyBitsModel", "limit", "I", false)
  | 18 => ("LikelyBitsModel", "next", "I", false)
  | 19 => ("LikelyBitsModel", "above", "J", false)
  | 20 => ("LikelyBitsModel", "span", "I", false)
  | 21 => ("LikelyBitsModel", "left", "I", false)
  | _ => ("LikelyBitsModel", "last", "I", false)
def ty_Mdl : Nat → FieldType := fun k => match k with
  | 0 => .array .int
  | 1 => .array .int
  | 2 => .int
  | 3 => .int
  | 4 => .array .int
  | 5 => .array .int
  | 6 => .array .int
  | 7 => .boolean
  | 8 => .boolean
  | 9 => .int
  | 10 => .int
  | 11 => .boolean
  | 12 => .int
  | 13 => .int
  | 14 => .boolean
  | 15 => .boolean
  | 16 => .int
  | 17 => .int
  | 18 => .int
  | 19 => .long
  | 20 => .int
  | 21 => .int
  | _ => .int
theorem nm_Mdl : ∀ a, a < 23 → ∀ b, b < 23 → a ≠ b → (T_Mdl a).2.1 ≠ (T_Mdl b).2.1 := by decide +kernel
theorem tyok_Mdl : ∀ k, k < 23 → parseFieldDescriptor (T_Mdl k).2.2.1 = some (ty_Mdl k) := by decide +kernel
def R_Law : String := "LikelyBitsLaw"
def R_Arr : String := "java/util/Arrays"
abbrev b_Row_init : ByteArray := prog_7_method_1_code
def y_Row_init : MethodName := ⟨R_Row, "<init>", "()V"⟩
abbrev b_Row_count : ByteArray := prog_7_method_2_code
def y_Row_count : MethodName := ⟨R_Row, "count", "()I"⟩
abbrev b_Row_empty : ByteArray := prog_7_method_3_code
def y_Row_empty : MethodName := ⟨R_Row, "empty", "()V"⟩
abbrev b_Row_byteAt : ByteArray := prog_7_method_4_code
def y_Row_byteAt : MethodName := ⟨R_Row, "byteAt", "(I)I"⟩
abbrev b_Row_change : ByteArray := prog_7_method_5_code
def y_Row_change : MethodName := ⟨R_Row, "change", "(II)V"⟩
abbrev b_Row_append : ByteArray := prog_7_method_6_code
def y_Row_append : MethodName := ⟨R_Row, "append", "(I)V"⟩
abbrev b_Row_dropLast : ByteArray := prog_7_method_7_code
def y_Row_dropLast : MethodName := ⟨R_Row, "dropLast", "()V"⟩
abbrev b_Cxt_init : ByteArray := prog_4_method_1_code
def y_Cxt_init : MethodName := ⟨R_Cxt, "<init>", "()V"⟩
abbrev b_Cxt_set : ByteArray := prog_4_method_2_code
def y_Cxt_set : MethodName := ⟨R_Cxt, "set", "(III)V"⟩
abbrev b_Cxt_stateOf : ByteArray := prog_4_method_3_code
def y_Cxt_stateOf : MethodName := ⟨R_Cxt, "stateOf", "(I)I"⟩
abbrev b_Cxt_likelyBitOf : ByteArray := prog_4_method_4_code
def y_Cxt_likelyBitOf : MethodName := ⟨R_Cxt, "likelyBitOf", "(I)I"⟩
abbrev b_Cxt_partOf : ByteArray := prog_4_method_5_code
def y_Cxt_partOf : MethodName := ⟨R_Cxt, "partOf", "(I)I"⟩
abbrev b_Cxt_afterLikely : ByteArray := prog_4_method_6_code
def y_Cxt_afterLikely : MethodName := ⟨R_Cxt, "afterLikely", "(I)V"⟩
abbrev b_Cxt_afterOther : ByteArray := prog_4_method_7_code
def y_Cxt_afterOther : MethodName := ⟨R_Cxt, "afterOther", "(I)V"⟩
abbrev b_Cxt_turns : ByteArray := prog_4_method_8_code
def y_Cxt_turns : MethodName := ⟨R_Cxt, "turns", "(I)Z"⟩
abbrev b_Cxt_entry : ByteArray := prog_4_method_9_code
def y_Cxt_entry : MethodName := ⟨R_Cxt, "entry", "([II)I"⟩
abbrev b_Seg_init : ByteArray := prog_8_method_1_code
def y_Seg_init : MethodName := ⟨R_Seg, "<init>", "(LLikelyBits$Row;)V"⟩
abbrev b_Seg_begin : ByteArray := prog_8_method_2_code
def y_Seg_begin : MethodName := ⟨R_Seg, "begin", "()V"⟩
abbrev b_Seg_length : ByteArray := prog_8_method_3_code
def y_Seg_length : MethodName := ⟨R_Seg, "length", "()I"⟩
abbrev b_Seg_last : ByteArray := prog_8_method_4_code
def y_Seg_last : MethodName := ⟨R_Seg, "last", "()I"⟩
abbrev b_Seg_changeLast : ByteArray := prog_8_method_5_code
def y_Seg_changeLast : MethodName := ⟨R_Seg, "changeLast", "(I)V"⟩
abbrev b_Seg_append : ByteArray := prog_8_method_6_code
def y_Seg_append : MethodName := ⟨R_Seg, "append", "(I)V"⟩
abbrev b_Seg_dropLastIfAllOnes : ByteArray := prog_8_method_7_code
def y_Seg_dropLastIfAllOnes : MethodName := ⟨R_Seg, "dropLastIfAllOnes", "()V"⟩
abbrev b_Src_init : ByteArray := prog_9_method_1_code
def y_Src_init : MethodName := ⟨R_Src, "<init>", "(LLikelyBits$Row;)V"⟩
abbrev b_Src_begin : ByteArray := prog_9_method_2_code
def y_Src_begin : MethodName := ⟨R_Src, "begin", "(II)V"⟩
abbrev b_Src_peek : ByteArray := prog_9_method_3_code
def y_Src_peek : MethodName := ⟨R_Src, "peek", "()I"⟩
abbrev b_Src_take : ByteArray := prog_9_method_4_code
def y_Src_take : MethodName := ⟨R_Src, "take", "()I"⟩
abbrev b_CWr_init : ByteArray := prog_3_method_1_code
def y_CWr_init : MethodName := ⟨R_CWr, "<init>", "(LLikelyBits$Segment;LLikelyBits$Contexts;)V"⟩
abbrev b_CWr_begin : ByteArray := prog_3_method_2_code
def y_CWr_begin : MethodName := ⟨R_CWr, "begin", "()V"⟩
abbrev b_CWr_add : ByteArray := prog_3_method_3_code
def y_CWr_add : MethodName := ⟨R_CWr, "add", "(II)V"⟩
abbrev b_CWr_addLikely : ByteArray := prog_3_method_4_code
def y_CWr_addLikely : MethodName := ⟨R_CWr, "addLikely", "(II)V"⟩
abbrev b_CWr_addOther : ByteArray := prog_3_method_5_code
def y_CWr_addOther : MethodName := ⟨R_CWr, "addOther", "(II)V"⟩
abbrev b_CWr_enlarge : ByteArray := prog_3_method_6_code
def y_CWr_enlarge : MethodName := ⟨R_CWr, "enlarge", "()V"⟩
abbrev b_CWr_byteOut : ByteArray := prog_3_method_7_code
def y_CWr_byteOut : MethodName := ⟨R_CWr, "byteOut", "()V"⟩
abbrev b_CWr_fillByteOut : ByteArray := prog_3_method_8_code
def y_CWr_fillByteOut : MethodName := ⟨R_CWr, "fillByteOut", "()V"⟩
abbrev b_CWr_endInWay0 : ByteArray := prog_3_method_9_code
def y_CWr_endInWay0 : MethodName := ⟨R_CWr, "endInWay0", "()V"⟩
abbrev b_CWr_endInWay1 : ByteArray := prog_3_method_10_code
def y_CWr_endInWay1 : MethodName := ⟨R_CWr, "endInWay1", "()V"⟩
abbrev b_CRd_init : ByteArray := prog_2_method_1_code
def y_CRd_init : MethodName := ⟨R_CRd, "<init>", "(LLikelyBits$Source;LLikelyBits$Contexts;)V"⟩
abbrev b_CRd_begin : ByteArray := prog_2_method_2_code
def y_CRd_begin : MethodName := ⟨R_CRd, "begin", "()V"⟩
abbrev b_CRd_byteIn : ByteArray := prog_2_method_3_code
def y_CRd_byteIn : MethodName := ⟨R_CRd, "byteIn", "()V"⟩
abbrev b_CRd_nextBit : ByteArray := prog_2_method_4_code
def y_CRd_nextBit : MethodName := ⟨R_CRd, "nextBit", "(I)I"⟩
abbrev b_CRd_enlarge : ByteArray := prog_2_method_5_code
def y_CRd_enlarge : MethodName := ⟨R_CRd, "enlarge", "()V"⟩
abbrev b_RWr_init : ByteArray := prog_6_method_1_code
def y_RWr_init : MethodName := ⟨R_RWr, "<init>", "(LLikelyBits$Segment;)V"⟩
abbrev b_RWr_begin : ByteArray := prog_6_method_2_code
def y_RWr_begin : MethodName := ⟨R_RWr, "begin", "()V"⟩
abbrev b_RWr_add : ByteArray := prog_6_method_3_code
def y_RWr_add : MethodName := ⟨R_RWr, "add", "(I)V"⟩
abbrev b_RWr_end : ByteArray := prog_6_method_4_code
def y_RWr_end : MethodName := ⟨R_RWr, "end", "()V"⟩
abbrev b_RRd_init : ByteArray := prog_5_method_1_code
def y_RRd_init : MethodName := ⟨R_RRd, "<init>", "(LLikelyBits$Source;)V"⟩
abbrev b_RRd_begin : ByteArray := prog_5_method_2_code
def y_RRd_begin : MethodName := ⟨R_RRd, "begin", "()V"⟩
abbrev b_RRd_nextBit : ByteArray := prog_5_method_3_code
def y_RRd_nextBit : MethodName := ⟨R_RRd, "nextBit", "()I"⟩
abbrev b_LB_init : ByteArray := prog_1_method_1_code
def y_LB_init : MethodName := ⟨R_LB, "<init>", "()V"⟩
abbrev b_LB_clear : ByteArray := prog_1_method_2_code
def y_LB_clear : MethodName := ⟨R_LB, "clear", "()V"⟩
abbrev b_LB_put : ByteArray := prog_1_method_3_code
def y_LB_put : MethodName := ⟨R_LB, "put", "(I)I"⟩
abbrev b_LB_at : ByteArray := prog_1_method_4_code
def y_LB_at : MethodName := ⟨R_LB, "at", "(I)I"⟩
abbrev b_LB_context : ByteArray := prog_1_method_5_code
def y_LB_context : MethodName := ⟨R_LB, "context", "(ZIII)V"⟩
abbrev b_LB_state : ByteArray := prog_1_method_6_code
def y_LB_state : MethodName := ⟨R_LB, "state", "(ZI)I"⟩
abbrev b_LB_open : ByteArray := prog_1_method_7_code
def y_LB_open : MethodName := ⟨R_LB, "open", "(Z)V"⟩
abbrev b_LB_write : ByteArray := prog_1_method_8_code
def y_LB_write : MethodName := ⟨R_LB, "write", "(IJI)I"⟩
abbrev b_LB_enough : ByteArray := prog_1_method_9_code
def y_LB_enough : MethodName := ⟨R_LB, "enough", "()I"⟩
abbrev b_LB_close : ByteArray := prog_1_method_10_code
def y_LB_close : MethodName := ⟨R_LB, "close", "(I)I"⟩
abbrev b_LB_read : ByteArray := prog_1_method_11_code
def y_LB_read : MethodName := ⟨R_LB, "read", "(ZII)V"⟩
abbrev b_LB_bits : ByteArray := prog_1_method_12_code
def y_LB_bits : MethodName := ⟨R_LB, "bits", "(II)J"⟩
abbrev b_LB_register : ByteArray := prog_1_method_13_code
def y_LB_register : MethodName := ⟨R_LB, "register", "(I)I"⟩
abbrev b_LB_roomOfSegment : ByteArray := prog_1_method_14_code
def y_LB_roomOfSegment : MethodName := ⟨R_LB, "roomOfSegment", "()I"⟩
abbrev b_LB_contextsOf : ByteArray := prog_1_method_15_code
def y_LB_contextsOf : MethodName := ⟨R_LB, "contextsOf", "(Z)LLikelyBits$Contexts;"⟩
abbrev b_LB_isContext : ByteArray := prog_1_method_16_code
def y_LB_isContext : MethodName := ⟨R_LB, "isContext", "(I)Z"⟩
abbrev b_LB_fits : ByteArray := prog_1_method_17_code
def y_LB_fits : MethodName := ⟨R_LB, "fits", "(IZ)Z"⟩
abbrev b_Mdl_init : ByteArray := prog_11_method_1_code
def y_Mdl_init : MethodName := ⟨R_Mdl, "<init>", "()V"⟩
abbrev b_Mdl_thrown : ByteArray := prog_11_method_2_code
def y_Mdl_thrown : MethodName := ⟨R_Mdl, "thrown", "()I"⟩
abbrev b_Mdl_throwing : ByteArray := prog_11_method_3_code
def y_Mdl_throwing : MethodName := ⟨R_Mdl, "throwing", "(ZZZ)Z"⟩
abbrev b_Mdl_out : ByteArray := prog_11_method_4_code
def y_Mdl_out : MethodName := ⟨R_Mdl, "out", "(III)Z"⟩
abbrev b_Mdl_clear : ByteArray := prog_11_method_5_code
def y_Mdl_clear : MethodName := ⟨R_Mdl, "clear", "()V"⟩
abbrev b_Mdl_put : ByteArray := prog_11_method_6_code
def y_Mdl_put : MethodName := ⟨R_Mdl, "put", "(I)I"⟩
abbrev b_Mdl_at : ByteArray := prog_11_method_7_code
def y_Mdl_at : MethodName := ⟨R_Mdl, "at", "(I)I"⟩
abbrev b_Mdl_context : ByteArray := prog_11_method_8_code
def y_Mdl_context : MethodName := ⟨R_Mdl, "context", "(ZIII)V"⟩
abbrev b_Mdl_state : ByteArray := prog_11_method_9_code
def y_Mdl_state : MethodName := ⟨R_Mdl, "state", "(ZI)I"⟩
abbrev b_Mdl_nextOf : ByteArray := prog_11_method_10_code
def y_Mdl_nextOf : MethodName := ⟨R_Mdl, "nextOf", "(I)I"⟩
abbrev b_Mdl_change : ByteArray := prog_11_method_11_code
def y_Mdl_change : MethodName := ⟨R_Mdl, "change", "(IZ)V"⟩
abbrev b_Mdl_doublings : ByteArray := prog_11_method_12_code
def y_Mdl_doublings : MethodName := ⟨R_Mdl, "doublings", "(I)I"⟩
abbrev b_Mdl_hasLast : ByteArray := prog_11_method_13_code
def y_Mdl_hasLast : MethodName := ⟨R_Mdl, "hasLast", "()Z"⟩
abbrev b_Mdl_takes : ByteArray := prog_11_method_14_code
def y_Mdl_takes : MethodName := ⟨R_Mdl, "takes", "()Z"⟩
abbrev b_Mdl_carry : ByteArray := prog_11_method_15_code
def y_Mdl_carry : MethodName := ⟨R_Mdl, "carry", "()I"⟩
abbrev b_Mdl_keep : ByteArray := prog_11_method_16_code
def y_Mdl_keep : MethodName := ⟨R_Mdl, "keep", "(I)V"⟩
abbrev b_Mdl_byteOut : ByteArray := prog_11_method_17_code
def y_Mdl_byteOut : MethodName := ⟨R_Mdl, "byteOut", "()V"⟩
abbrev b_Mdl_push : ByteArray := prog_11_method_18_code
def y_Mdl_push : MethodName := ⟨R_Mdl, "push", "()V"⟩
abbrev b_Mdl_writeCoded : ByteArray := prog_11_method_19_code
def y_Mdl_writeCoded : MethodName := ⟨R_Mdl, "writeCoded", "(II)V"⟩
abbrev b_Mdl_writeRaw : ByteArray := prog_11_method_20_code
def y_Mdl_writeRaw : MethodName := ⟨R_Mdl, "writeRaw", "(I)V"⟩
abbrev b_Mdl_open : ByteArray := prog_11_method_21_code
def y_Mdl_open : MethodName := ⟨R_Mdl, "open", "(Z)V"⟩
abbrev b_Mdl_write : ByteArray := prog_11_method_22_code
def y_Mdl_write : MethodName := ⟨R_Mdl, "write", "(IJI)I"⟩
abbrev b_Mdl_enough : ByteArray := prog_11_method_23_code
def y_Mdl_enough : MethodName := ⟨R_Mdl, "enough", "()I"⟩
abbrev b_Mdl_close : ByteArray := prog_11_method_24_code
def y_Mdl_close : MethodName := ⟨R_Mdl, "close", "(I)I"⟩
abbrev b_Mdl_byteAt : ByteArray := prog_11_method_25_code
def y_Mdl_byteAt : MethodName := ⟨R_Mdl, "byteAt", "(I)I"⟩
abbrev b_Mdl_read : ByteArray := prog_11_method_26_code
def y_Mdl_read : MethodName := ⟨R_Mdl, "read", "(ZII)V"⟩
abbrev b_Mdl_comesIn : ByteArray := prog_11_method_27_code
def y_Mdl_comesIn : MethodName := ⟨R_Mdl, "comesIn", "()I"⟩
abbrev b_Mdl_round : ByteArray := prog_11_method_28_code
def y_Mdl_round : MethodName := ⟨R_Mdl, "round", "()V"⟩
abbrev b_Mdl_readCoded : ByteArray := prog_11_method_29_code
def y_Mdl_readCoded : MethodName := ⟨R_Mdl, "readCoded", "(I)I"⟩
abbrev b_Mdl_readRaw : ByteArray := prog_11_method_30_code
def y_Mdl_readRaw : MethodName := ⟨R_Mdl, "readRaw", "()I"⟩
abbrev b_Mdl_bits : ByteArray := prog_11_method_31_code
def y_Mdl_bits : MethodName := ⟨R_Mdl, "bits", "(II)J"⟩
abbrev b_Mdl_register : ByteArray := prog_11_method_32_code
def y_Mdl_register : MethodName := ⟨R_Mdl, "register", "(I)I"⟩
abbrev b_Law_put : ByteArray := method_3_code
def y_Law_put : MethodName := ⟨R_Law, "put", "(LLikelyBits;I[J)I"⟩
abbrev b_Law_at : ByteArray := method_4_code
def y_Law_at : MethodName := ⟨R_Law, "at", "(LLikelyBits;I[J)I"⟩
abbrev b_Law_context : ByteArray := method_5_code
def y_Law_context : MethodName := ⟨R_Law, "context", "(LLikelyBits;ZIII)I"⟩
abbrev b_Law_state : ByteArray := method_6_code
def y_Law_state : MethodName := ⟨R_Law, "state", "(LLikelyBits;ZI[J)I"⟩
abbrev b_Law_open : ByteArray := method_7_code
def y_Law_open : MethodName := ⟨R_Law, "open", "(LLikelyBits;Z)I"⟩
abbrev b_Law_write : ByteArray := method_8_code
def y_Law_write : MethodName := ⟨R_Law, "write", "(LLikelyBits;IJI[J)I"⟩
abbrev b_Law_enough : ByteArray := method_9_code
def y_Law_enough : MethodName := ⟨R_Law, "enough", "(LLikelyBits;[J)I"⟩
abbrev b_Law_close : ByteArray := method_10_code
def y_Law_close : MethodName := ⟨R_Law, "close", "(LLikelyBits;I[J)I"⟩
abbrev b_Law_read : ByteArray := method_11_code
def y_Law_read : MethodName := ⟨R_Law, "read", "(LLikelyBits;ZII)I"⟩
abbrev b_Law_bits : ByteArray := method_12_code
def y_Law_bits : MethodName := ⟨R_Law, "bits", "(LLikelyBits;II[J)I"⟩
abbrev b_Law_law : ByteArray := code
def y_Law_law : MethodName := ⟨R_Law, "law", "([I)Z"⟩
abbrev b_Arr_copyOf : ByteArray := prog_23_method_123_code
def y_Arr_copyOf : MethodName := ⟨R_Arr, "copyOf", "([II)[I"⟩
abbrev vwCl : List vw_C := [(R_Row, T_Row, 2), (R_Cxt, T_Cxt, 2), (R_Seg, T_Seg, 2), (R_Src, T_Src, 4), (R_CWr, T_CWr, 5), (R_CRd, T_CRd, 6), (R_RWr, T_RWr, 2), (R_RRd, T_RRd, 3), (R_LB, T_LB, 13), (R_Mdl, T_Mdl, 23)]
def AW : List Cond := lw_tbl.filter goodWord
theorem inAW {w : Cond} (h : w ∈ lw_tbl) (g : goodWord w = true) : w ∈ AW := List.mem_filter.mpr ⟨h, g⟩
theorem AW_good {w : Cond} (h : w ∈ AW) : goodWord w = true := (List.mem_filter.mp h).2
set_option maxRecDepth 20000 in
theorem inw_Row : ∀ w ∈ u_ws R_Row T_Row 2, w ∈ AW := by decide +kernel
set_option maxRecDepth 20000 in
theorem inw_Cxt : ∀ w ∈ u_ws R_Cxt T_Cxt 2, w ∈ AW := by decide +kernel
set_option maxRecDepth 20000 in
theorem inw_Seg : ∀ w ∈ u_ws R_Seg T_Seg 2, w ∈ AW := by decide +kernel
set_option maxRecDepth 20000 in
theorem inw_Src : ∀ w ∈ u_ws R_Src T_Src 4, w ∈ AW := by decide +kernel
set_option maxRecDepth 20000 in
theorem inw_CWr : ∀ w ∈ u_ws R_CWr T_CWr 5, w ∈ AW := by decide +kernel
set_option maxRecDepth 20000 in
theorem inw_CRd : ∀ w ∈ u_ws R_CRd T_CRd 6, w ∈ AW := by decide +kernel
set_option maxRecDepth 20000 in
theorem inw_RWr : ∀ w ∈ u_ws R_RWr T_RWr 2, w ∈ AW := by decide +kernel
set_option maxRecDepth 20000 in
theorem inw_RRd : ∀ w ∈ u_ws R_RRd T_RRd 3, w ∈ AW := by decide +kernel
set_option maxRecDepth 20000 in
theorem inw_LB : ∀ w ∈ u_ws R_LB T_LB 13, w ∈ AW := by decide +kernel
set_option maxRecDepth 20000 in
theorem inw_Mdl : ∀ w ∈ u_ws R_Mdl T_Mdl 23, w ∈ AW := by decide +kernel

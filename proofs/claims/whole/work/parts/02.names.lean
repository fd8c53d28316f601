/-! ===== printed by program (wip/whole/gen_names.py): the classes, fields, methods and pools ===== -/
def pmCn : List String := ["PortableFiles$Bytes", "PortableFiles$Extras", "PortableFiles$Palette", "PortableFiles$Picture", "PortableFiles$Reading", "PortableFiles$Tags", "PortableFiles$Writing", "PortableFiles", "PortableFilesModel", "PortableFiles$Shape", "PortableFiles$Letters", "PortableFiles$Rows", "PortableFiles$Lessening", "PortableFilesLaw", "java/util/Arrays", "java/lang/Math"]
def pmT0 : u_T := fun k => match k with
  | 0 => ("PortableFiles$Bytes", "values", "[I", true)
  | _ => ("PortableFiles$Bytes", "count", "I", false)
def pmy0 : Nat → FieldType := fun k => match k with
  | 0 => .array .int
  | _ => .int
def pmT1 : u_T := fun k => match k with
  | 0 => ("PortableFiles$Extras", "letters", "[I", true)
  | 1 => ("PortableFiles$Extras", "lengths", "[I", true)
  | 2 => ("PortableFiles$Extras", "bytes", "[I", true)
  | _ => ("PortableFiles$Extras", "count", "I", false)
def pmy1 : Nat → FieldType := fun k => match k with
  | 0 => .array .int
  | 1 => .array .int
  | 2 => .array .int
  | _ => .int
def pmT2 : u_T := fun k => match k with
  | 0 => ("PortableFiles$Palette", "parts", "[I", true)
  | _ => ("PortableFiles$Palette", "count", "I", false)
def pmy2 : Nat → FieldType := fun k => match k with
  | 0 => .array .int
  | _ => .int
def pmT3 : u_T := fun k => match k with
  | 0 => ("PortableFiles$Picture", "palette", "LPortableFiles$Palette;", true)
  | 1 => ("PortableFiles$Picture", "tags", "LPortableFiles$Tags;", true)
  | 2 => ("PortableFiles$Picture", "extras", "LPortableFiles$Extras;", true)
  | 3 => ("PortableFiles$Picture", "samples", "[I", true)
  | 4 => ("PortableFiles$Picture", "there", "Z", false)
  | 5 => ("PortableFiles$Picture", "width", "I", false)
  | 6 => ("PortableFiles$Picture", "height", "I", false)
  | 7 => ("PortableFiles$Picture", "bits", "I", false)
  | 8 => ("PortableFiles$Picture", "kind", "I", false)
  | _ => ("PortableFiles$Picture", "channels", "I", false)
def pmy3 : Nat → FieldType := fun k => match k with
  | 0 => .object "PortableFiles$Palette"
  | 1 => .object "PortableFiles$Tags"
  | 2 => .object "PortableFiles$Extras"
  | 3 => .array .int
  | 4 => .boolean
  | 5 => .int
  | 6 => .int
  | 7 => .int
  | 8 => .int
  | _ => .int
def pmT4 : u_T := fun k => match k with
  | 0 => ("PortableFiles$Reading", "fed", "LPortableFiles$Bytes;", true)
  | 1 => ("PortableFiles$Reading", "picture", "LPortableFiles$Picture;", true)
  | 2 => ("PortableFiles$Reading", "rows", "LPortableFiles$Bytes;", true)
  | 3 => ("PortableFiles$Reading", "isWhole", "Z", false)
  | 4 => ("PortableFiles$Reading", "fault", "I", false)
  | 5 => ("PortableFiles$Reading", "place", "I", false)
  | 6 => ("PortableFiles$Reading", "chunks", "I", false)
  | 7 => ("PortableFiles$Reading", "leftOut", "I", false)
  | 8 => ("PortableFiles$Reading", "length", "I", false)
  | 9 => ("PortableFiles$Reading", "letters", "I", false)
  | 10 => ("PortableFiles$Reading", "rowBytes", "I", false)
  | 11 => ("PortableFiles$Reading", "headCame", "Z", false)
  | 12 => ("PortableFiles$Reading", "paletteCame", "Z", false)
  | 13 => ("PortableFiles$Reading", "alphasCame", "Z", false)
  | 14 => ("PortableFiles$Reading", "rowsCame", "Z", false)
  | _ => ("PortableFiles$Reading", "rowsEnded", "Z", false)
def pmy4 : Nat → FieldType := fun k => match k with
  | 0 => .object "PortableFiles$Bytes"
  | 1 => .object "PortableFiles$Picture"
  | 2 => .object "PortableFiles$Bytes"
  | 3 => .boolean
  | 4 => .int
  | 5 => .int
  | 6 => .int
  | 7 => .int
  | 8 => .int
  | 9 => .int
  | 10 => .int
  | 11 => .boolean
  | 12 => .boolean
  | 13 => .boolean
  | 14 => .boolean
  | _ => .boolean
def pmT5 : u_T := fun k => match k with
  | _ => ("PortableFiles$Tags", "values", "[I", true)
def pmy5 : Nat → FieldType := fun k => match k with
  | _ => .array .int
def pmT6 : u_T := fun k => match k with
  | 0 => ("PortableFiles$Writing", "out", "LPortableFiles$Bytes;", true)
  | 1 => ("PortableFiles$Writing", "rows", "LPortableFiles$Bytes;", true)
  | _ => ("PortableFiles$Writing", "opened", "I", false)
def pmy6 : Nat → FieldType := fun k => match k with
  | 0 => .object "PortableFiles$Bytes"
  | 1 => .object "PortableFiles$Bytes"
  | _ => .int
def pmT7 : u_T := fun k => match k with
  | 0 => ("PortableFiles", "picture", "LPortableFiles$Picture;", true)
  | 1 => ("PortableFiles", "writing", "LPortableFiles$Writing;", true)
  | _ => ("PortableFiles", "reading", "LPortableFiles$Reading;", true)
def pmy7 : Nat → FieldType := fun k => match k with
  | 0 => .object "PortableFiles$Picture"
  | 1 => .object "PortableFiles$Writing"
  | _ => .object "PortableFiles$Reading"
def pmT8 : u_T := fun k => match k with
  | 0 => ("PortableFilesModel", "code", "I", false)
  | 1 => ("PortableFilesModel", "has", "Z", false)
  | 2 => ("PortableFilesModel", "width", "I", false)
  | 3 => ("PortableFilesModel", "height", "I", false)
  | 4 => ("PortableFilesModel", "bits", "I", false)
  | 5 => ("PortableFilesModel", "kind", "I", false)
  | 6 => ("PortableFilesModel", "samples", "[I", true)
  | 7 => ("PortableFilesModel", "entries", "I", false)
  | 8 => ("PortableFilesModel", "palette", "[I", true)
  | 9 => ("PortableFilesModel", "tags", "[I", true)
  | 10 => ("PortableFilesModel", "extras", "I", false)
  | 11 => ("PortableFilesModel", "extraLetters", "[I", true)
  | 12 => ("PortableFilesModel", "extraSizes", "[I", true)
  | 13 => ("PortableFilesModel", "extraBytes", "[I", true)
  | 14 => ("PortableFilesModel", "isRead", "Z", false)
  | 15 => ("PortableFilesModel", "readWidth", "I", false)
  | 16 => ("PortableFilesModel", "readHeight", "I", false)
  | 17 => ("PortableFilesModel", "readBits", "I", false)
  | 18 => ("PortableFilesModel", "readKind", "I", false)
  | 19 => ("PortableFilesModel", "readSamples", "[I", true)
  | 20 => ("PortableFilesModel", "readEntries", "I", false)
  | 21 => ("PortableFilesModel", "readPalette", "[I", true)
  | 22 => ("PortableFilesModel", "readTags", "[I", true)
  | 23 => ("PortableFilesModel", "readExtras", "I", false)
  | 24 => ("PortableFilesModel", "readLetters", "[I", true)
  | 25 => ("PortableFilesModel", "readSizes", "[I", true)
  | 26 => ("PortableFilesModel", "readBytes", "[I", true)
  | 27 => ("PortableFilesModel", "leftOut", "I", false)
  | 28 => ("PortableFilesModel", "fault", "I", false)
  | 29 => ("PortableFilesModel", "written", "[I", true)
  | 30 => ("PortableFilesModel", "writtenMany", "I", false)
  | 31 => ("PortableFilesModel", "fed", "[I", true)
  | 32 => ("PortableFilesModel", "fedMany", "I", false)
  | 33 => ("PortableFilesModel", "place", "I", false)
  | 34 => ("PortableFilesModel", "rows", "[I", true)
  | 35 => ("PortableFilesModel", "rowBytes", "I", false)
  | 36 => ("PortableFilesModel", "sawHead", "Z", false)
  | 37 => ("PortableFilesModel", "sawPalette", "Z", false)
  | 38 => ("PortableFilesModel", "sawAlphas", "Z", false)
  | 39 => ("PortableFilesModel", "sawRows", "Z", false)
  | 40 => ("PortableFilesModel", "rowsEnded", "Z", false)
  | _ => ("PortableFilesModel", "sawTag", "[Z", true)
def pmy8 : Nat → FieldType := fun k => match k with
  | 0 => .int
  | 1 => .boolean
  | 2 => .int
  | 3 => .int
  | 4 => .int
  | 5 => .int
  | 6 => .array .int
  | 7 => .int
  | 8 => .array .int
  | 9 => .array .int
  | 10 => .int
  | 11 => .array .int
  | 12 => .array .int
  | 13 => .array .int
  | 14 => .boolean
  | 15 => .int
  | 16 => .int
  | 17 => .int
  | 18 => .int
  | 19 => .array .int
  | 20 => .int
  | 21 => .array .int
  | 22 => .array .int
  | 23 => .int
  | 24 => .array .int
  | 25 => .array .int
  | 26 => .array .int
  | 27 => .int
  | 28 => .int
  | 29 => .array .int
  | 30 => .int
  | 31 => .array .int
  | 32 => .int
  | 33 => .int
  | 34 => .array .int
  | 35 => .int
  | 36 => .boolean
  | 37 => .boolean
  | 38 => .boolean
  | 39 => .boolean
  | 40 => .boolean
  | _ => .array .boolean
abbrev pmCl : List vw_C := [("PortableFiles$Bytes", pmT0, 2), ("PortableFiles$Extras", pmT1, 4), ("PortableFiles$Palette", pmT2, 2), ("PortableFiles$Picture", pmT3, 10), ("PortableFiles$Reading", pmT4, 16), ("PortableFiles$Tags", pmT5, 1), ("PortableFiles$Writing", pmT6, 3), ("PortableFiles", pmT7, 3), ("PortableFilesModel", pmT8, 42)]
def pmTy : List (Nat → FieldType) := [pmy0, pmy1, pmy2, pmy3, pmy4, pmy5, pmy6, pmy7, pmy8]
abbrev pmMeth : Type := MethodName × ByteArray × Nat × Option FieldType × List (Nat × Nat × Nat × Nat) × Nat × Nat × Nat × Nat
def pmMs_0 : List pmMeth := [(⟨"PortableFilesLaw", "head", "(LPortableFiles;IIII)I"⟩, method_3_code, 6, (some .int), [(0, 9, 12, 13)], 13, 5, 7, 114),
  (⟨"PortableFilesLaw", "colour", "(LPortableFiles;IIII[J)I"⟩, method_4_code, 7, (some .int), [(0, 14, 17, 19), (0, 14, 21, 13), (0, 14, 25, 21)], 13, 6, 7, 114),
  (⟨"PortableFilesLaw", "put", "(LPortableFiles;IIII[J)I"⟩, method_5_code, 7, (some .int), [(0, 14, 17, 19), (0, 14, 21, 26), (0, 14, 25, 13)], 13, 6, 8, 135),
  (⟨"PortableFilesLaw", "tag", "(LPortableFiles;II[J)I"⟩, method_6_code, 5, (some .int), [(0, 10, 13, 19), (0, 10, 17, 13)], 13, 4, 8, 133),
  (⟨"PortableFilesLaw", "extra", "(LPortableFiles;I[J)I"⟩, method_7_code, 4, (some .int), [(0, 9, 12, 19), (0, 9, 15, 13), (0, 9, 18, 21)], 13, 3, 8, 131),
  (⟨"PortableFilesLaw", "byteOf", "(LPortableFiles;II[J)I"⟩, method_8_code, 5, (some .int), [(0, 10, 13, 19), (0, 10, 17, 26), (0, 10, 21, 13), (0, 10, 25, 21)], 13, 4, 8, 132),
  (⟨"PortableFilesLaw", "reduce", "(LPortableFiles;[J)I"⟩, method_9_code, 3, (some .int), [(0, 8, 11, 19)], 13, 2, 8, 134),
  (⟨"PortableFilesLaw", "write", "(LPortableFiles;[J)I"⟩, method_10_code, 3, (some .int), [(0, 8, 11, 19)], 13, 2, 8, 159),
  (⟨"PortableFilesLaw", "byteAt", "(LPortableFiles;I[J)I"⟩, method_11_code, 4, (some .int), [(0, 9, 12, 26)], 13, 3, 8, 132),
  (⟨"PortableFilesLaw", "feed", "(LPortableFiles;I[J)I"⟩, method_12_code, 4, (some .int), [(0, 9, 12, 13), (0, 9, 15, 21)], 13, 3, 8, 132),
  (⟨"PortableFilesLaw", "pass", "(LPortableFiles;II[J)I"⟩, method_13_code, 5, (some .int), [(0, 10, 13, 26), (0, 10, 17, 13), (0, 10, 21, 21)], 13, 4, 8, 135),
  (⟨"PortableFilesLaw", "alter", "(LPortableFiles;IIZ[J)I"⟩, method_14_code, 6, (some .int), [(0, 12, 15, 26), (0, 12, 19, 13)], 13, 5, 8, 134),
  (⟨"PortableFilesLaw", "at", "(LPortableFiles;III[J)I"⟩, method_15_code, 6, (some .int), [(0, 12, 15, 19), (0, 12, 19, 26)], 13, 5, 8, 133),
  (⟨"PortableFilesLaw", "found", "(LPortableFiles;I[J)I"⟩, method_16_code, 4, (some .int), [(0, 9, 12, 19)], 13, 3, 8, 131),
  (⟨"PortableFilesLaw", "entry", "(LPortableFiles;II[J)I"⟩, method_17_code, 5, (some .int), [(0, 10, 13, 19), (0, 10, 17, 26), (0, 10, 21, 13)], 13, 4, 8, 132),
  (⟨"PortableFilesLaw", "unknown", "(LPortableFiles;II[J)I"⟩, method_18_code, 5, (some .int), [(0, 10, 13, 19), (0, 10, 17, 26)], 13, 4, 8, 133)]
def pmMs_1 : List pmMeth := [(⟨"PortableFilesLaw", "take", "(LPortableFiles;)I"⟩, method_19_code, 2, (some .int), [(0, 4, 7, 19)], 13, 1, 8, 130),
  (⟨"PortableFiles$Bytes", "<init>", "(I)V"⟩, prog_2_method_1_code, 2, none, [], 0, 2, 1, 20),
  (⟨"PortableFiles$Bytes", "clear", "()V"⟩, prog_2_method_2_code, 1, none, [], 0, 1, 0, 0),
  (⟨"PortableFiles$Bytes", "has", "(I)Z"⟩, prog_2_method_3_code, 2, (some .boolean), [], 0, 2, 0, 0),
  (⟨"PortableFiles$Bytes", "value", "(I)I"⟩, prog_2_method_4_code, 2, (some .int), [], 0, 2, 1, 21),
  (⟨"PortableFiles$Bytes", "set", "(II)V"⟩, prog_2_method_5_code, 3, none, [], 0, 3, 1, 21),
  (⟨"PortableFiles$Bytes", "add", "(I)V"⟩, prog_2_method_6_code, 2, none, [], 0, 2, 0, 0),
  (⟨"PortableFiles$Bytes", "number", "(I)I"⟩, prog_2_method_7_code, 2, (some .int), [], 0, 2, 2, 42),
  (⟨"PortableFiles$Bytes", "setNumber", "(II)V"⟩, prog_2_method_8_code, 3, none, [], 0, 3, 2, 43),
  (⟨"PortableFiles$Bytes", "addNumber", "(I)V"⟩, prog_2_method_9_code, 2, none, [], 0, 2, 1, 21),
  (⟨"PortableFiles$Bytes", "addBeginning", "()V"⟩, prog_2_method_10_code, 2, none, [], 0, 1, 1, 21),
  (⟨"PortableFiles$Bytes", "hasBeginning", "()Z"⟩, prog_2_method_11_code, 2, (some .boolean), [], 0, 1, 2, 42),
  (⟨"PortableFiles$Bytes", "dataLengthMayBe", "(I)Z"⟩, prog_2_method_12_code, 1, (some .boolean), [], 0, 1, 0, 0),
  (⟨"PortableFiles$Bytes", "hasWholeChunk", "(II)Z"⟩, prog_2_method_13_code, 3, (some .boolean), [], 0, 3, 0, 0),
  (⟨"PortableFiles$Bytes", "sumIsRight", "(II)Z"⟩, prog_2_method_14_code, 3, (some .boolean), [], 0, 3, 3, 67),
  (⟨"PortableFiles$Bytes", "rightSum", "(II)I"⟩, prog_2_method_15_code, 6, (some .int), [], 0, 3, 2, 42)]
def pmMs_2 : List pmMeth := [(⟨"PortableFiles$Bytes", "mendSum", "(I)V"⟩, prog_2_method_16_code, 4, none, [], 0, 2, 3, 67),
  (⟨"PortableFiles$Bytes", "sumPlace", "(II)I"⟩, prog_2_method_17_code, 2, (some .int), [], 0, 2, 0, 0),
  (⟨"PortableFiles$Extras", "<init>", "()V"⟩, prog_3_method_1_code, 1, none, [], 1, 1, 1, 20),
  (⟨"PortableFiles$Extras", "clear", "()V"⟩, prog_3_method_2_code, 1, none, [], 1, 1, 0, 0),
  (⟨"PortableFiles$Extras", "isFull", "()Z"⟩, prog_3_method_3_code, 1, (some .boolean), [], 1, 1, 0, 0),
  (⟨"PortableFiles$Extras", "has", "(I)Z"⟩, prog_3_method_4_code, 2, (some .boolean), [], 1, 2, 0, 0),
  (⟨"PortableFiles$Extras", "lettersOf", "(I)I"⟩, prog_3_method_5_code, 2, (some .int), [], 1, 2, 1, 21),
  (⟨"PortableFiles$Extras", "lengthOf", "(I)I"⟩, prog_3_method_6_code, 2, (some .int), [], 1, 2, 1, 21),
  (⟨"PortableFiles$Extras", "value", "(II)I"⟩, prog_3_method_7_code, 3, (some .int), [], 1, 3, 2, 42),
  (⟨"PortableFiles$Extras", "add", "(I)V"⟩, prog_3_method_8_code, 2, none, [], 1, 2, 1, 20),
  (⟨"PortableFiles$Extras", "addByte", "(II)V"⟩, prog_3_method_9_code, 3, none, [], 1, 3, 1, 21),
  (⟨"PortableFiles$Extras", "leaveOnlySafeOnes", "()V"⟩, prog_3_method_10_code, 3, none, [], 1, 1, 2, 48),
  (⟨"PortableFiles$Extras", "copyFrom", "(LPortableFiles$Extras;)V"⟩, prog_3_method_11_code, 2, none, [], 1, 2, 1, 26),
  (⟨"PortableFiles$Extras", "move", "(II)V"⟩, prog_3_method_12_code, 3, none, [], 1, 3, 1, 26),
  (⟨"PortableFiles$Palette", "<init>", "()V"⟩, prog_6_method_1_code, 1, none, [], 2, 1, 1, 20),
  (⟨"PortableFiles$Palette", "most", "(I)I"⟩, prog_6_method_2_code, 1, (some .int), [], 2, 1, 1, 21)]
def pmMs_3 : List pmMeth := [(⟨"PortableFiles$Palette", "clear", "()V"⟩, prog_6_method_3_code, 1, none, [], 2, 1, 0, 0),
  (⟨"PortableFiles$Palette", "has", "(I)Z"⟩, prog_6_method_4_code, 2, (some .boolean), [], 2, 2, 0, 0),
  (⟨"PortableFiles$Palette", "part", "(II)I"⟩, prog_6_method_5_code, 3, (some .int), [], 2, 3, 1, 21),
  (⟨"PortableFiles$Palette", "add", "(IIII)V"⟩, prog_6_method_6_code, 6, none, [], 2, 5, 0, 0),
  (⟨"PortableFiles$Palette", "setAlpha", "(II)V"⟩, prog_6_method_7_code, 3, none, [], 2, 3, 1, 21),
  (⟨"PortableFiles$Palette", "alphasToTell", "()I"⟩, prog_6_method_8_code, 2, (some .int), [], 2, 1, 2, 43),
  (⟨"PortableFiles$Palette", "copyFrom", "(LPortableFiles$Palette;)V"⟩, prog_6_method_9_code, 2, none, [], 2, 2, 1, 26),
  (⟨"PortableFiles$Picture", "<init>", "()V"⟩, prog_7_method_1_code, 1, none, [], 3, 1, 2, 40),
  (⟨"PortableFiles$Picture", "begin", "(IIII)V"⟩, prog_7_method_2_code, 5, none, [], 3, 5, 2, 43),
  (⟨"PortableFiles$Picture", "become", "(II)V"⟩, prog_7_method_3_code, 3, none, [], 3, 3, 1, 20),
  (⟨"PortableFiles$Picture", "has", "(III)Z"⟩, prog_7_method_4_code, 4, (some .boolean), [], 3, 4, 0, 0),
  (⟨"PortableFiles$Picture", "sample", "(III)I"⟩, prog_7_method_5_code, 4, (some .int), [], 3, 4, 1, 23),
  (⟨"PortableFiles$Picture", "setSample", "(IIII)V"⟩, prog_7_method_6_code, 5, none, [], 3, 5, 1, 23),
  (⟨"PortableFiles$Picture", "sampleMayBe", "(I)Z"⟩, prog_7_method_7_code, 2, (some .boolean), [], 3, 2, 1, 21),
  (⟨"PortableFiles$Picture", "hasChanged", "()V"⟩, prog_7_method_8_code, 1, none, [], 3, 1, 3, 70),
  (⟨"PortableFiles$Picture", "copyFrom", "(LPortableFiles$Picture;)V"⟩, prog_7_method_9_code, 2, none, [], 3, 2, 2, 47)]
def pmMs_4 : List pmMeth := [(⟨"PortableFiles$Picture", "placeOf", "(III)I"⟩, prog_7_method_10_code, 3, (some .int), [], 3, 3, 0, 0),
  (⟨"PortableFiles$Reading", "<init>", "()V"⟩, prog_8_method_1_code, 1, none, [], 4, 1, 3, 60),
  (⟨"PortableFiles$Reading", "run", "()V"⟩, prog_8_method_2_code, 2, none, [], 4, 1, 6, 134),
  (⟨"PortableFiles$Reading", "begin", "()V"⟩, prog_8_method_3_code, 2, none, [], 4, 1, 3, 63),
  (⟨"PortableFiles$Reading", "readChunk", "()I"⟩, prog_8_method_4_code, 2, (some .int), [], 4, 1, 5, 113),
  (⟨"PortableFiles$Reading", "frameFault", "()I"⟩, prog_8_method_5_code, 1, (some .int), [], 4, 1, 3, 63),
  (⟨"PortableFiles$Reading", "leaveOut", "()I"⟩, prog_8_method_6_code, 1, (some .int), [], 4, 1, 2, 41),
  (⟨"PortableFiles$Reading", "noteRowsEnd", "()V"⟩, prog_8_method_7_code, 1, none, [], 4, 1, 0, 0),
  (⟨"PortableFiles$Reading", "orderIsWrong", "()Z"⟩, prog_8_method_8_code, 1, (some .boolean), [], 4, 1, 3, 62),
  (⟨"PortableFiles$Reading", "isGreyKind", "()Z"⟩, prog_8_method_9_code, 1, (some .boolean), [], 4, 1, 0, 0),
  (⟨"PortableFiles$Reading", "isUnknown", "()Z"⟩, prog_8_method_10_code, 1, (some .boolean), [], 4, 1, 2, 41),
  (⟨"PortableFiles$Reading", "takeIn", "()Z"⟩, prog_8_method_11_code, 2, (some .boolean), [], 4, 1, 4, 92),
  (⟨"PortableFiles$Reading", "takeHead", "(I)Z"⟩, prog_8_method_12_code, 6, (some .boolean), [], 4, 2, 3, 67),
  (⟨"PortableFiles$Reading", "takeTag", "(II)Z"⟩, prog_8_method_13_code, 3, (some .boolean), [], 4, 3, 2, 42),
  (⟨"PortableFiles$Reading", "takePalette", "(I)Z"⟩, prog_8_method_14_code, 5, (some .boolean), [], 4, 2, 2, 42),
  (⟨"PortableFiles$Reading", "takeAlphas", "(I)Z"⟩, prog_8_method_15_code, 3, (some .boolean), [], 4, 2, 2, 43)]
def pmMs_5 : List pmMeth := [(⟨"PortableFiles$Reading", "takeRows", "(I)Z"⟩, prog_8_method_16_code, 3, (some .boolean), [], 4, 2, 2, 42),
  (⟨"PortableFiles$Reading", "takeExtra", "(I)Z"⟩, prog_8_method_17_code, 4, (some .boolean), [], 4, 2, 2, 43),
  (⟨"PortableFiles$Reading", "end", "()I"⟩, prog_8_method_18_code, 1, (some .int), [], 4, 1, 4, 99),
  (⟨"PortableFiles$Tags", "<init>", "()V"⟩, prog_11_method_1_code, 1, none, [], 5, 1, 1, 20),
  (⟨"PortableFiles$Tags", "isTag", "(I)Z"⟩, prog_11_method_2_code, 1, (some .boolean), [], 5, 1, 0, 0),
  (⟨"PortableFiles$Tags", "mayBe", "(II)Z"⟩, prog_11_method_3_code, 2, (some .boolean), [], 5, 2, 0, 0),
  (⟨"PortableFiles$Tags", "clear", "()V"⟩, prog_11_method_4_code, 1, none, [], 5, 1, 1, 23),
  (⟨"PortableFiles$Tags", "has", "(I)Z"⟩, prog_11_method_5_code, 2, (some .boolean), [], 5, 2, 2, 41),
  (⟨"PortableFiles$Tags", "value", "(I)I"⟩, prog_11_method_6_code, 2, (some .int), [], 5, 2, 1, 20),
  (⟨"PortableFiles$Tags", "set", "(II)V"⟩, prog_11_method_7_code, 3, none, [], 5, 3, 1, 20),
  (⟨"PortableFiles$Tags", "copyFrom", "(LPortableFiles$Tags;)V"⟩, prog_11_method_8_code, 2, none, [], 5, 2, 1, 26),
  (⟨"PortableFiles$Writing", "<init>", "()V"⟩, prog_12_method_1_code, 1, none, [], 6, 1, 2, 41),
  (⟨"PortableFiles$Writing", "run", "(LPortableFiles$Picture;)V"⟩, prog_12_method_2_code, 2, none, [], 6, 2, 5, 118),
  (⟨"PortableFiles$Writing", "open", "(I)V"⟩, prog_12_method_3_code, 2, none, [], 6, 2, 2, 42),
  (⟨"PortableFiles$Writing", "close", "()V"⟩, prog_12_method_4_code, 2, none, [], 6, 1, 3, 67),
  (⟨"PortableFiles$Writing", "addHead", "(LPortableFiles$Picture;)V"⟩, prog_12_method_5_code, 2, none, [], 6, 2, 4, 88)]
def pmMs_6 : List pmMeth := [(⟨"PortableFiles$Writing", "addTags", "(LPortableFiles$Tags;)V"⟩, prog_12_method_6_code, 2, none, [], 6, 2, 4, 88),
  (⟨"PortableFiles$Writing", "addPalette", "(LPortableFiles$Palette;)V"⟩, prog_12_method_7_code, 4, none, [], 6, 2, 4, 88),
  (⟨"PortableFiles$Writing", "addAlphas", "(LPortableFiles$Palette;)V"⟩, prog_12_method_8_code, 4, none, [], 6, 2, 4, 88),
  (⟨"PortableFiles$Writing", "addRows", "(LPortableFiles$Picture;)V"⟩, prog_12_method_9_code, 5, none, [], 6, 2, 4, 94),
  (⟨"PortableFiles$Writing", "addExtras", "(LPortableFiles$Extras;)V"⟩, prog_12_method_10_code, 4, none, [], 6, 2, 4, 88),
  (⟨"PortableFiles", "<init>", "()V"⟩, prog_1_method_1_code, 1, none, [], 7, 1, 4, 80),
  (⟨"PortableFiles", "head", "(IIII)V"⟩, prog_1_method_2_code, 5, none, [], 7, 5, 6, 90),
  (⟨"PortableFiles", "colour", "(IIII)I"⟩, prog_1_method_3_code, 5, (some .int), [], 7, 5, 6, 90),
  (⟨"PortableFiles", "put", "(IIII)I"⟩, prog_1_method_4_code, 6, (some .int), [], 7, 5, 7, 110),
  (⟨"PortableFiles", "tag", "(II)I"⟩, prog_1_method_5_code, 4, (some .int), [], 7, 3, 7, 110),
  (⟨"PortableFiles", "extra", "(I)I"⟩, prog_1_method_6_code, 2, (some .int), [], 7, 2, 7, 110),
  (⟨"PortableFiles", "byteOf", "(II)I"⟩, prog_1_method_7_code, 3, (some .int), [], 7, 3, 7, 110),
  (⟨"PortableFiles", "reduce", "()I"⟩, prog_1_method_8_code, 1, (some .int), [], 7, 1, 7, 114),
  (⟨"PortableFiles", "write", "()I"⟩, prog_1_method_9_code, 1, (some .int), [], 7, 1, 7, 139),
  (⟨"PortableFiles", "byteAt", "(I)I"⟩, prog_1_method_10_code, 2, (some .int), [], 7, 2, 7, 111),
  (⟨"PortableFiles", "feed", "(I)I"⟩, prog_1_method_11_code, 2, (some .int), [], 7, 2, 7, 111)]
def pmMs_7 : List pmMeth := [(⟨"PortableFiles", "pass", "(II)I"⟩, prog_1_method_12_code, 5, (some .int), [], 7, 3, 7, 111),
  (⟨"PortableFiles", "alter", "(IIZ)I"⟩, prog_1_method_13_code, 5, (some .int), [], 7, 4, 7, 110),
  (⟨"PortableFiles", "read", "()I"⟩, prog_1_method_14_code, 1, (some .int), [], 7, 1, 7, 155),
  (⟨"PortableFiles", "at", "(III)I"⟩, prog_1_method_15_code, 4, (some .int), [], 7, 4, 7, 110),
  (⟨"PortableFiles", "found", "(I)I"⟩, prog_1_method_16_code, 2, (some .int), [], 7, 2, 7, 110),
  (⟨"PortableFiles", "entry", "(II)I"⟩, prog_1_method_17_code, 3, (some .int), [], 7, 3, 7, 110),
  (⟨"PortableFiles", "unknown", "(II)I"⟩, prog_1_method_18_code, 4, (some .int), [], 7, 3, 7, 110),
  (⟨"PortableFiles", "take", "()V"⟩, prog_1_method_19_code, 1, none, [], 7, 1, 7, 110),
  (⟨"PortableFiles", "told", "(I)I"⟩, prog_1_method_20_code, 2, (some .int), [], 7, 2, 0, 0),
  (⟨"PortableFiles", "drop", "()V"⟩, prog_1_method_21_code, 1, none, [], 7, 1, 1, 20),
  (⟨"PortableFiles", "needPicture", "()V"⟩, prog_1_method_22_code, 1, none, [], 7, 1, 6, 90),
  (⟨"PortableFiles", "needReading", "()V"⟩, prog_1_method_23_code, 1, none, [], 7, 1, 6, 90),
  (⟨"PortableFiles", "needWritten", "(I)V"⟩, prog_1_method_24_code, 2, none, [], 7, 2, 6, 90),
  (⟨"PortableFiles", "needRoom", "(I)V"⟩, prog_1_method_25_code, 2, none, [], 7, 2, 6, 90),
  (⟨"PortableFiles", "needByte", "(I)V"⟩, prog_1_method_26_code, 1, none, [], 7, 1, 6, 90),
  (⟨"PortableFiles", "isByte", "(I)Z"⟩, prog_1_method_27_code, 1, (some .boolean), [], 7, 1, 0, 0)]
def pmMs_8 : List pmMeth := [(⟨"PortableFilesModel", "<init>", "()V"⟩, prog_14_method_1_code, 1, none, [], 8, 1, 1, 20),
  (⟨"PortableFilesModel", "thrown", "()I"⟩, prog_14_method_2_code, 1, (some .int), [], 8, 1, 0, 0),
  (⟨"PortableFilesModel", "isGood", "(IIII)Z"⟩, prog_14_method_3_code, 6, (some .boolean), [], 8, 4, 0, 0),
  (⟨"PortableFilesModel", "channelsOf", "(I)I"⟩, prog_14_method_4_code, 1, (some .int), [], 8, 1, 0, 0),
  (⟨"PortableFilesModel", "mostEntries", "(I)I"⟩, prog_14_method_5_code, 1, (some .int), [], 8, 1, 0, 0),
  (⟨"PortableFilesModel", "head", "(IIII)V"⟩, prog_14_method_6_code, 6, none, [], 8, 5, 1, 25),
  (⟨"PortableFilesModel", "isByte", "(I)Z"⟩, prog_14_method_7_code, 1, (some .boolean), [], 8, 1, 0, 0),
  (⟨"PortableFilesModel", "change", "()V"⟩, prog_14_method_8_code, 4, none, [], 8, 1, 0, 0),
  (⟨"PortableFilesModel", "colour", "(IIII)I"⟩, prog_14_method_9_code, 5, (some .int), [], 8, 5, 1, 23),
  (⟨"PortableFilesModel", "put", "(IIII)I"⟩, prog_14_method_10_code, 7, (some .int), [], 8, 5, 1, 23),
  (⟨"PortableFilesModel", "mayBe", "(IJ)Z"⟩, prog_14_method_11_code, 3, (some .boolean), [], 8, 2, 0, 0),
  (⟨"PortableFilesModel", "tag", "(II)I"⟩, prog_14_method_12_code, 4, (some .int), [], 8, 3, 1, 22),
  (⟨"PortableFilesModel", "isGreat", "(I)Z"⟩, prog_14_method_13_code, 1, (some .boolean), [], 8, 1, 0, 0),
  (⟨"PortableFilesModel", "isSmall", "(I)Z"⟩, prog_14_method_14_code, 1, (some .boolean), [], 8, 1, 0, 0),
  (⟨"PortableFilesModel", "letter", "(II)I"⟩, prog_14_method_15_code, 2, (some .int), [], 8, 2, 0, 0),
  (⟨"PortableFilesModel", "areLetters", "(I)Z"⟩, prog_14_method_16_code, 3, (some .boolean), [], 8, 1, 1, 21)]
def pmMs_9 : List pmMeth := [(⟨"PortableFilesModel", "isOfOthers", "(I)Z"⟩, prog_14_method_17_code, 1, (some .boolean), [], 8, 1, 2, 43),
  (⟨"PortableFilesModel", "extra", "(I)I"⟩, prog_14_method_18_code, 2, (some .int), [], 8, 2, 3, 63),
  (⟨"PortableFilesModel", "byteOf", "(II)I"⟩, prog_14_method_19_code, 3, (some .int), [], 8, 3, 1, 20),
  (⟨"PortableFilesModel", "isFull", "(I)Z"⟩, prog_14_method_20_code, 4, (some .boolean), [], 8, 2, 0, 0),
  (⟨"PortableFilesModel", "isGrey", "()Z"⟩, prog_14_method_21_code, 3, (some .boolean), [], 8, 1, 0, 0),
  (⟨"PortableFilesModel", "greatest", "(I)I"⟩, prog_14_method_22_code, 1, (some .int), [], 8, 1, 0, 0),
  (⟨"PortableFilesModel", "fits", "(I)Z"⟩, prog_14_method_23_code, 5, (some .boolean), [], 8, 2, 1, 20),
  (⟨"PortableFilesModel", "lessen", "()V"⟩, prog_14_method_24_code, 4, none, [], 8, 1, 2, 44),
  (⟨"PortableFilesModel", "reduce", "()I"⟩, prog_14_method_25_code, 3, (some .int), [], 8, 1, 3, 67),
  (⟨"PortableFilesModel", "tell", "(I)V"⟩, prog_14_method_26_code, 2, none, [], 8, 2, 0, 0),
  (⟨"PortableFilesModel", "tellNumber", "(I)V"⟩, prog_14_method_27_code, 3, none, [], 8, 2, 1, 21),
  (⟨"PortableFilesModel", "sumOf", "([III)I"⟩, prog_14_method_28_code, 7, (some .int), [], 8, 3, 0, 0),
  (⟨"PortableFilesModel", "close", "(I)V"⟩, prog_14_method_29_code, 4, none, [], 8, 2, 2, 43),
  (⟨"PortableFilesModel", "open", "(I)I"⟩, prog_14_method_30_code, 3, (some .int), [], 8, 2, 2, 43),
  (⟨"PortableFilesModel", "writeTags", "()V"⟩, prog_14_method_31_code, 2, none, [], 8, 1, 3, 66),
  (⟨"PortableFilesModel", "writePalette", "()V"⟩, prog_14_method_32_code, 4, none, [], 8, 1, 3, 66)]
def pmMs_10 : List pmMeth := [(⟨"PortableFilesModel", "bytesInRow", "(III)I"⟩, prog_14_method_33_code, 3, (some .int), [], 8, 3, 1, 20),
  (⟨"PortableFilesModel", "rowByte", "(I)I"⟩, prog_14_method_34_code, 9, (some .int), [], 8, 2, 2, 42),
  (⟨"PortableFilesModel", "writeRows", "()V"⟩, prog_14_method_35_code, 5, none, [], 8, 1, 3, 70),
  (⟨"PortableFilesModel", "mark", "(I)I"⟩, prog_14_method_36_code, 1, (some .int), [], 8, 1, 0, 0),
  (⟨"PortableFilesModel", "write", "()I"⟩, prog_14_method_37_code, 4, (some .int), [], 8, 1, 4, 94),
  (⟨"PortableFilesModel", "byteAt", "(I)I"⟩, prog_14_method_38_code, 2, (some .int), [], 8, 2, 0, 0),
  (⟨"PortableFilesModel", "feed", "(I)I"⟩, prog_14_method_39_code, 2, (some .int), [], 8, 2, 1, 20),
  (⟨"PortableFilesModel", "pass", "(II)I"⟩, prog_14_method_40_code, 5, (some .int), [], 8, 3, 0, 0),
  (⟨"PortableFilesModel", "four", "([II)I"⟩, prog_14_method_41_code, 2, (some .int), [], 8, 2, 0, 0),
  (⟨"PortableFilesModel", "endOf", "(I)I"⟩, prog_14_method_42_code, 3, (some .int), [], 8, 2, 1, 21),
  (⟨"PortableFilesModel", "alter", "(IIZ)I"⟩, prog_14_method_43_code, 9, (some .int), [], 8, 4, 2, 43),
  (⟨"PortableFilesModel", "breakBy", "(ZII)V"⟩, prog_14_method_44_code, 4, none, [], 8, 4, 0, 0),
  (⟨"PortableFilesModel", "tagOf", "(I)I"⟩, prog_14_method_45_code, 1, (some .int), [], 8, 1, 0, 0),
  (⟨"PortableFilesModel", "isOutOfOrder", "(I)Z"⟩, prog_14_method_46_code, 3, (some .boolean), [], 8, 2, 1, 20),
  (⟨"PortableFilesModel", "takeHead", "(II)Z"⟩, prog_14_method_47_code, 3, (some .boolean), [], 8, 3, 1, 25),
  (⟨"PortableFilesModel", "takeTag", "(III)Z"⟩, prog_14_method_48_code, 5, (some .boolean), [], 8, 4, 1, 22)]
def pmMs_11 : List pmMeth := [(⟨"PortableFilesModel", "takePalette", "(II)Z"⟩, prog_14_method_49_code, 4, (some .boolean), [], 8, 3, 1, 20),
  (⟨"PortableFilesModel", "takeAlphas", "(II)Z"⟩, prog_14_method_50_code, 4, (some .boolean), [], 8, 3, 0, 0),
  (⟨"PortableFilesModel", "takeRows", "(II)Z"⟩, prog_14_method_51_code, 4, (some .boolean), [], 8, 3, 0, 0),
  (⟨"PortableFilesModel", "takeExtra", "(III)Z"⟩, prog_14_method_52_code, 5, (some .boolean), [], 8, 4, 0, 0),
  (⟨"PortableFilesModel", "takes", "(III)Z"⟩, prog_14_method_53_code, 4, (some .boolean), [], 8, 4, 2, 47),
  (⟨"PortableFilesModel", "rowBits", "(II)I"⟩, prog_14_method_54_code, 5, (some .int), [], 8, 3, 0, 0),
  (⟨"PortableFilesModel", "unpack", "()Z"⟩, prog_14_method_55_code, 8, (some .boolean), [], 8, 1, 2, 42),
  (⟨"PortableFilesModel", "begin", "()V"⟩, prog_14_method_56_code, 3, none, [], 8, 1, 1, 23),
  (⟨"PortableFilesModel", "chunk", "(I)I"⟩, prog_14_method_57_code, 6, (some .int), [], 8, 2, 3, 70),
  (⟨"PortableFilesModel", "read", "()I"⟩, prog_14_method_58_code, 4, (some .int), [], 8, 1, 4, 95),
  (⟨"PortableFilesModel", "at", "(III)I"⟩, prog_14_method_59_code, 4, (some .int), [], 8, 4, 1, 20),
  (⟨"PortableFilesModel", "found", "(I)I"⟩, prog_14_method_60_code, 2, (some .int), [], 8, 2, 0, 0),
  (⟨"PortableFilesModel", "entry", "(II)I"⟩, prog_14_method_61_code, 3, (some .int), [], 8, 3, 0, 0),
  (⟨"PortableFilesModel", "unknown", "(II)I"⟩, prog_14_method_62_code, 3, (some .int), [], 8, 3, 0, 0),
  (⟨"PortableFilesModel", "take", "()V"⟩, prog_14_method_63_code, 2, none, [], 8, 1, 0, 0),
  (⟨"PortableFilesModel", "told", "(I)I"⟩, prog_14_method_64_code, 2, (some .int), [], 8, 2, 0, 0)]
def pmMs_12 : List pmMeth := [(⟨"PortableFilesModel", "drop", "()V"⟩, prog_14_method_65_code, 1, none, [], 8, 1, 0, 0),
  (⟨"PortableFiles$Shape", "mayBe", "(IIII)Z"⟩, prog_10_method_2_code, 4, (some .boolean), [], 9, 4, 1, 21),
  (⟨"PortableFiles$Shape", "channelsOf", "(I)I"⟩, prog_10_method_3_code, 1, (some .int), [], 9, 1, 0, 0),
  (⟨"PortableFiles$Shape", "greatest", "(I)I"⟩, prog_10_method_4_code, 1, (some .int), [], 9, 1, 0, 0),
  (⟨"PortableFiles$Shape", "sideMayBe", "(I)Z"⟩, prog_10_method_5_code, 1, (some .boolean), [], 9, 1, 0, 0),
  (⟨"PortableFiles$Shape", "bitsMayBe", "(II)Z"⟩, prog_10_method_6_code, 2, (some .boolean), [], 9, 2, 0, 0),
  (⟨"PortableFiles$Letters", "mayBe", "(I)Z"⟩, prog_5_method_2_code, 1, (some .boolean), [], 10, 1, 2, 40),
  (⟨"PortableFiles$Letters", "areOfExtra", "(I)Z"⟩, prog_5_method_3_code, 1, (some .boolean), [], 10, 1, 3, 60),
  (⟨"PortableFiles$Letters", "firstIsGreat", "(I)Z"⟩, prog_5_method_4_code, 1, (some .boolean), [], 10, 1, 1, 21),
  (⟨"PortableFiles$Letters", "fourthIsGreat", "(I)Z"⟩, prog_5_method_5_code, 1, (some .boolean), [], 10, 1, 1, 21),
  (⟨"PortableFiles$Letters", "letter", "(II)I"⟩, prog_5_method_6_code, 2, (some .int), [], 10, 2, 0, 0),
  (⟨"PortableFiles$Letters", "isLetter", "(I)Z"⟩, prog_5_method_7_code, 1, (some .boolean), [], 10, 1, 1, 20),
  (⟨"PortableFiles$Letters", "isGreat", "(I)Z"⟩, prog_5_method_8_code, 1, (some .boolean), [], 10, 1, 0, 0),
  (⟨"PortableFiles$Rows", "lengthOf", "(LPortableFiles$Picture;)I"⟩, prog_9_method_2_code, 1, (some .int), [], 11, 1, 2, 40),
  (⟨"PortableFiles$Rows", "pack", "(LPortableFiles$Picture;LPortableFiles$Bytes;)V"⟩, prog_9_method_3_code, 3, none, [], 11, 2, 3, 72),
  (⟨"PortableFiles$Rows", "unpack", "(LPortableFiles$Bytes;LPortableFiles$Picture;)Z"⟩, prog_9_method_4_code, 5, (some .boolean), [], 11, 2, 3, 75)]
def pmMs_13 : List pmMeth := [(⟨"PortableFiles$Rows", "packRow", "(LPortableFiles$Picture;ILPortableFiles$Bytes;)V"⟩, prog_9_method_5_code, 7, none, [], 11, 3, 2, 46),
  (⟨"PortableFiles$Rows", "unpackRow", "(LPortableFiles$Bytes;ILPortableFiles$Picture;I)Z"⟩, prog_9_method_6_code, 9, (some .boolean), [], 11, 4, 2, 47),
  (⟨"PortableFiles$Rows", "isFilledWithNought", "(ILPortableFiles$Picture;)Z"⟩, prog_9_method_7_code, 3, (some .boolean), [], 11, 2, 1, 20),
  (⟨"PortableFiles$Rows", "rowLength", "(LPortableFiles$Picture;)I"⟩, prog_9_method_8_code, 1, (some .int), [], 11, 1, 1, 20),
  (⟨"PortableFiles$Rows", "rowBits", "(LPortableFiles$Picture;)I"⟩, prog_9_method_9_code, 1, (some .int), [], 11, 1, 0, 0),
  (⟨"PortableFiles$Lessening", "lessen", "(LPortableFiles$Picture;)V"⟩, prog_4_method_2_code, 3, none, [], 12, 1, 4, 92),
  (⟨"PortableFiles$Lessening", "lessenAlpha", "(LPortableFiles$Picture;)V"⟩, prog_4_method_3_code, 1, none, [], 12, 1, 3, 69),
  (⟨"PortableFiles$Lessening", "lessenColours", "(LPortableFiles$Picture;)V"⟩, prog_4_method_4_code, 1, none, [], 12, 1, 3, 69),
  (⟨"PortableFiles$Lessening", "lessenGreyBits", "(LPortableFiles$Picture;)V"⟩, prog_4_method_5_code, 3, none, [], 12, 1, 3, 70),
  (⟨"PortableFiles$Lessening", "stepOf", "(II)I"⟩, prog_4_method_6_code, 3, (some .int), [], 12, 2, 1, 20),
  (⟨"PortableFiles$Lessening", "lessenPaletteBits", "(LPortableFiles$Picture;)V"⟩, prog_4_method_7_code, 2, none, [], 12, 1, 2, 42),
  (⟨"PortableFiles$Lessening", "isOpaque", "(LPortableFiles$Picture;)Z"⟩, prog_4_method_8_code, 4, (some .boolean), [], 12, 1, 2, 46),
  (⟨"PortableFiles$Lessening", "isGreyEverywhere", "(LPortableFiles$Picture;)Z"⟩, prog_4_method_9_code, 4, (some .boolean), [], 12, 1, 2, 46),
  (⟨"PortableFiles$Lessening", "allAreTimes", "(LPortableFiles$Picture;I)Z"⟩, prog_4_method_10_code, 4, (some .boolean), [], 12, 2, 2, 46),
  (⟨"PortableFiles$Lessening", "divideAll", "(LPortableFiles$Picture;I)V"⟩, prog_4_method_11_code, 4, none, [], 12, 2, 2, 47),
  (⟨"java/util/Arrays", "fill", "([II)V"⟩, prog_25_method_103_code, 4, none, [], 14, 2, 0, 0)]
def pmMs_14 : List pmMeth := [(⟨"java/lang/Math", "min", "(II)I"⟩, prog_19_method_69_code, 2, (some .int), [], 15, 2, 0, 0)]
def pmMs : List pmMeth := pmMs_0 ++ pmMs_1 ++ pmMs_2 ++ pmMs_3 ++ pmMs_4 ++ pmMs_5 ++ pmMs_6 ++ pmMs_7 ++ pmMs_8 ++ pmMs_9 ++ pmMs_10 ++ pmMs_11 ++ pmMs_12 ++ pmMs_13 ++ pmMs_14
def pmFlT : List (List (Nat × Nat × Nat × Nat)) := [[(7, 0, 0, 161), (13, 0, 1, 162)], [(9, 1, 0, 72), (13, 1, 1, 73), (16, 1, 2, 74), (19, 1, 3, 75)], [(9, 2, 0, 44), (25, 2, 1, 45)], [(12, 3, 0, 88), (21, 3, 1, 93), (28, 3, 2, 97), (32, 3, 3, 101), (36, 3, 5, 104), (40, 3, 6, 109), (43, 3, 7, 114), (46, 3, 8, 120), (49, 3, 9, 125), (52, 3, 4, 102)], [(14, 4, 0, 191), (23, 4, 1, 193), (29, 4, 2, 195), (35, 4, 4, 198), (39, 4, 3, 196), (47, 4, 9, 207), (56, 4, 5, 200), (59, 4, 8, 206), (66, 4, 6, 202), (69, 4, 7, 204), (72, 4, 10, 208), (78, 4, 11, 209), (81, 4, 12, 210), (84, 4, 13, 211), (87, 4, 14, 212), (90, 4, 15, 213), (134, 3, 1, 96), (146, 3, 8, 124), (185, 3, 7, 119), (193, 3, 0, 92), (200, 2, 1, 49), (210, 3, 2, 100), (217, 1, 3, 78)], [(9, 5, 0, 62)], [(14, 6, 0, 170), (20, 6, 1, 172), (33, 3, 1, 94), (43, 3, 8, 122), (49, 3, 0, 89), (63, 3, 2, 98), (80, 0, 1, 163), (83, 6, 2, 173), (98, 3, 5, 105), (101, 3, 6, 111), (104, 3, 7, 118), (124, 2, 1, 47), (146, 1, 3, 77)], [(10, 7, 0, 247), (19, 7, 1, 248), (26, 7, 2, 249), (47, 3, 4, 103), (51, 3, 8, 123), (66, 3, 0, 90), (70, 2, 1, 46), (75, 3, 7, 116), (129, 3, 1, 95), (147, 3, 2, 99), (162, 1, 3, 76), (189, 6, 0, 171), (193, 0, 1, 164), (203, 4, 0, 192), (224, 4, 3, 197), (227, 4, 6, 203), (230, 4, 5, 201), (236, 4, 1, 194), (239, 3, 5, 108), (242, 3, 6, 113), (245, 4, 7, 205), (268, 4, 4, 199)], [(7, 8, 6, 1045), (13, 8, 8, 1047), (16, 8, 9, 1048), (19, 8, 11, 1050), (22, 8, 12, 1051), (25, 8, 13, 1052), (28, 8, 19, 1058), (31, 8, 21, 1060), (34, 8, 22, 1061), (37, 8, 24, 1063), (40, 8, 25, 1064), (43, 8, 26, 1065), (46, 8, 29, 1068), (49, 8, 31, 1070), (52, 8, 34, 1073), (55, 8, 41, 1080), (59, 8, 0, 1039), (67, 8, 1, 1040), (71, 8, 2, 1041), (74, 8, 3, 1042), (77, 8, 4, 1043), (80, 8, 5, 1044), (83, 8, 7, 1046), (86, 8, 10, 1049), (147, 8, 30, 1069), (196, 8, 32, 1071), (206, 8, 28, 1067), (209, 8, 33, 1072), (212, 8, 36, 1075), (218, 8, 39, 1078), (221, 8, 37, 1076), (224, 8, 18, 1057), (227, 8, 38, 1077), (230, 8, 40, 1079), (233, 8, 15, 1054), (236, 8, 16, 1055), (239, 8, 17, 1056), (242, 8, 20, 1059), (245, 8, 35, 1074), (248, 8, 23, 1062), (274, 8, 14, 1053), (277, 8, 27, 1066)], [], [], [(15, 3, 6, 110), (46, 3, 5, 106), (49, 3, 9, 126), (52, 3, 7, 117)], [(7, 3, 8, 121), (13, 3, 7, 115), (63, 3, 0, 91), (67, 2, 1, 48), (75, 3, 9, 127), (78, 3, 6, 112), (81, 3, 5, 107)], [], [], []]
def pmStT : List (List (Nat × Nat × Nat)) := [[(33, 0, 273), (46, 1, 330)], [], [], [], [], [], [], [], [], [], [], [], [], [], [], []]
def pmCoT : List (List (Nat × Int32 × Nat)) := [[], [], [], [], [(52, 1229278788, 369), (132, 1229209940, 343), (133, 1229472850, 348), (151, 1347179589, 368)], [], [(73, 1229278788, 912), (97, 1229472850, 831), (116, 1732332865, 859), (121, 1934772034, 861), (122, 1883789683, 862), (123, 1347179589, 867), (134, 1951551059, 881), (144, 1229209940, 896)], [], [(124, 1732332865, 1227), (125, 1934772034, 1228), (126, 1883789683, 1229), (127, 1951551059, 1230), (173, 1347179589, 1296), (178, 1229209940, 1304), (185, 1229472850, 1269), (195, 1229278788, 1309)], [], [(26, 1732332865, 736), (27, 1934772034, 737), (28, 1883789683, 738), (29, 1951551059, 739)], [], [], [], [], []]
def pmCjT : List (List (Nat × Int64 × Nat)) := [[], [], [], [], [], [], [], [], [(103, 3, 1206), (105, 2147483647, 1207), (154, 4294967295, 1285), (156, 2, 1286), (158, 3988292384, 1287)], [], [], [], [], [], [], []]
def pmNwT : List (List (Nat × Nat × Nat)) := [[], [], [], [(9, 2, 38), (18, 5, 56), (25, 1, 66)], [(9, 0, 187), (20, 3, 189)], [], [(7, 0, 155)], [(7, 3, 32), (16, 6, 149), (23, 4, 181)], [], [], [], [], [], [(8, 7, 24), (76, 8, 1033)], [], []]
def pmXnT : List (List (Nat × Nat × Nat)) := [[], [], [], [], [], [], [], [(36, 1, 539), (55, 0, 618), (82, 3, 639), (100, 2, 688)], [], [], [], [], [], [], [], []]
def pmXcT : List (List (Nat × Nat × Nat)) := [[], [], [], [], [], [], [], [(40, 1, 582), (59, 0, 628), (86, 3, 649), (104, 2, 698)], [], [], [], [], [], [], [], []]
def pmMtT : List (List (Nat × Nat × Nat × Nat)) := [[(17, 19, 0, 275), (21, 20, 0, 279), (25, 21, 0, 849), (29, 22, 0, 826), (36, 33, 0, 322), (40, 23, 0, 325), (43, 31, 0, 326), (49, 29, 0, 962), (53, 28, 0, 963), (56, 24, 0, 964)], [(23, 37, 0, 476), (27, 39, 0, 911), (31, 36, 0, 471), (35, 201, 0, 664), (40, 45, 0, 667)], [(13, 195, 0, 429), (19, 224, 0, 432), (29, 49, 0, 447), (33, 50, 0, 880)], [(11, 46, 1, 40), (20, 83, 1, 58), (27, 34, 1, 68), (56, 194, 0, 392), (60, 223, 0, 395), (66, 48, 0, 398), (69, 86, 0, 402), (70, 35, 0, 407), (71, 58, 0, 514), (75, 64, 0, 518), (79, 195, 0, 508), (82, 49, 0, 509), (85, 43, 0, 660), (94, 54, 0, 1019), (98, 90, 0, 1024), (101, 44, 0, 1029)], [(11, 17, 0, 188), (22, 55, 1, 190), (32, 67, 0, 265), (43, 68, 0, 287), (53, 82, 0, 480), (62, 27, 0, 269), (75, 18, 0, 283), (93, 69, 0, 291), (96, 30, 0, 318), (100, 70, 0, 332), (103, 72, 0, 344), (106, 74, 0, 364), (109, 75, 0, 370), (112, 71, 0, 339), (115, 29, 0, 295), (118, 23, 0, 299), (122, 28, 0, 303), (126, 198, 0, 306), (129, 200, 0, 336), (140, 87, 0, 349), (143, 73, 0, 360), (152, 76, 0, 374), (155, 77, 0, 411), (158, 20, 0, 378), (161, 78, 0, 422), (164, 79, 0, 439), (167, 80, 0, 451), (170, 81, 0, 459), (173, 193, 0, 379), (176, 56, 0, 388), (179, 85, 0, 415), (181, 89, 0, 418), (188, 47, 0, 426), (197, 51, 0, 435), (203, 52, 0, 443), (206, 22, 0, 455), (214, 36, 0, 463), (218, 41, 0, 467), (219, 42, 0, 472), (222, 205, 0, 484), (226, 207, 0, 493)], [(15, 223, 0, 406), (21, 88, 0, 353), (25, 84, 0, 357)], [(11, 17, 0, 157), (23, 18, 0, 821), (26, 26, 0, 822), (29, 95, 0, 827), (39, 96, 0, 854), (53, 97, 0, 863), (57, 98, 0, 872), (60, 99, 0, 882), (67, 100, 0, 898), (74, 93, 0, 832), (77, 94, 0, 841), (86, 25, 0, 836), (89, 24, 0, 845), (93, 31, 0, 853), (107, 22, 0, 840), (112, 87, 0, 858), (117, 88, 0, 860), (127, 50, 0, 868), (130, 53, 0, 876), (135, 206, 0, 886), (139, 224, 0, 895), (145, 20, 0, 897), (149, 38, 0, 902), (152, 39, 0, 906), (155, 40, 0, 907)], [(9, 55, 1, 34), (18, 91, 1, 151), (25, 65, 1, 183), (30, 193, 0, 538), (43, 56, 0, 608), (60, 127, 0, 634), (78, 47, 0, 638), (87, 51, 0, 655), (90, 62, 0, 656), (93, 122, 0, 682), (96, 58, 0, 687), (105, 61, 0, 704), (110, 59, 0, 706), (114, 60, 0, 710), (117, 84, 0, 718), (124, 85, 0, 720), (133, 88, 0, 722), (136, 89, 0, 723), (140, 199, 0, 731), (151, 36, 0, 741), (159, 41, 0, 743), (163, 37, 0, 751), (167, 126, 0, 753), (170, 39, 0, 757), (175, 42, 0, 762), (178, 213, 0, 770), (186, 92, 0, 817), (196, 124, 0, 920), (199, 20, 0, 926), (200, 125, 0, 934), (206, 22, 0, 939), (209, 224, 0, 948), (215, 19, 0, 924), (218, 21, 0, 957), (219, 32, 0, 958), (222, 66, 0, 261), (233, 123, 0, 972), (248, 49, 0, 992), (253, 50, 0, 995), (260, 38, 0, 1005), (263, 40, 0, 1006), (265, 63, 0, 1014), (271, 18, 0, 529)], [(63, 130, 0, 1175), (89, 134, 0, 1182), (93, 132, 0, 1185), (97, 135, 0, 1188), (100, 131, 0, 1196), (107, 138, 0, 1203), (111, 142, 0, 1218), (115, 140, 0, 1221), (118, 141, 0, 1224), (121, 143, 0, 1215), (128, 144, 0, 1212), (131, 149, 0, 1255), (134, 147, 0, 1243), (137, 148, 0, 1247), (141, 150, 0, 1251), (144, 151, 0, 1239), (150, 153, 0, 1265), (160, 155, 0, 1282), (164, 154, 0, 1274), (167, 157, 0, 1270), (170, 156, 0, 1278), (174, 160, 0, 1301), (179, 161, 0, 1305), (182, 163, 0, 1262), (186, 158, 0, 1288), (189, 159, 0, 1292), (192, 162, 0, 1297), (199, 168, 0, 1330), (203, 169, 0, 1326), (215, 172, 0, 1353), (251, 174, 0, 1360), (255, 176, 0, 1364), (258, 177, 0, 1368), (261, 178, 0, 1372), (264, 179, 0, 1376), (268, 175, 0, 1380), (271, 181, 0, 1388), (280, 171, 0, 1341), (284, 173, 0, 1349), (287, 180, 0, 1356), (290, 182, 0, 1384), (293, 183, 0, 1337), (296, 184, 0, 1345)], [(7, 196, 0, 382), (13, 197, 0, 385)], [(7, 202, 0, 309), (13, 203, 0, 312), (17, 204, 0, 315), (20, 198, 0, 734), (23, 200, 0, 735)], [(9, 211, 0, 487), (21, 18, 0, 889), (26, 22, 0, 890), (30, 208, 0, 891), (34, 20, 0, 496), (38, 210, 0, 497), (42, 209, 0, 501), (55, 59, 0, 894), (59, 195, 0, 500), (62, 61, 0, 504), (66, 60, 0, 510), (70, 212, 0, 490)], [(16, 214, 0, 773), (22, 215, 0, 784), (25, 216, 0, 790), (30, 218, 0, 804), (33, 62, 0, 808), (36, 219, 0, 776), (40, 57, 0, 780), (44, 220, 0, 787), (47, 217, 0, 793), (51, 221, 0, 797), (55, 222, 0, 800), (59, 195, 0, 796), (72, 47, 0, 807), (84, 59, 0, 779), (88, 60, 0, 803)], [(7, 102, 0, 534), (15, 103, 0, 614), (23, 104, 0, 678), (28, 105, 0, 714), (32, 106, 0, 727), (36, 107, 0, 747), (39, 108, 0, 766), (43, 109, 0, 812), (46, 110, 0, 916), (49, 111, 0, 930), (52, 112, 0, 943), (55, 113, 0, 952), (59, 115, 0, 968), (63, 116, 0, 981), (66, 117, 0, 988), (69, 118, 0, 999), (72, 119, 0, 1010), (75, 101, 0, 26), (78, 128, 0, 1035), (79, 0, 0, 530), (84, 133, 0, 1171), (85, 129, 0, 1167), (88, 1, 0, 609), (91, 136, 0, 1178), (92, 2, 0, 674), (94, 137, 0, 1192), (95, 3, 0, 711), (98, 139, 0, 1199), (99, 4, 0, 724), (102, 145, 0, 1208), (103, 5, 0, 744), (105, 146, 0, 1231), (106, 6, 0, 763), (109, 152, 0, 1235), (110, 7, 0, 809), (112, 164, 0, 1258), (113, 8, 0, 913), (115, 165, 0, 1310), (116, 9, 0, 927), (118, 166, 0, 1314), (119, 10, 0, 940), (121, 167, 0, 1318), (122, 11, 0, 949), (125, 170, 0, 1322), (126, 114, 0, 257), (129, 185, 0, 1333), (130, 12, 0, 965), (133, 186, 0, 1392), (134, 13, 0, 978), (136, 187, 0, 1396), (137, 14, 0, 985), (139, 188, 0, 1400), (140, 15, 0, 996), (142, 189, 0, 1404), (143, 16, 0, 1007), (146, 190, 0, 1408), (147, 120, 0, 521), (150, 191, 0, 1412), (151, 121, 0, 525), (154, 192, 0, 1416)], [], []]
def pmObT : List (List (Nat × Nat)) := [[(1, 160)], [(1, 71)], [(1, 43)], [(3, 37)], [(3, 186)], [(3, 61)], [(1, 154)], [(1, 29)], [(1, 1038)], [], [], [], [], [], [], []]
def pmCpT : List (List (Nat × Nat)) := [[], [(44, 671)], [(36, 1023)], [(88, 1018)], [], [(29, 1028)], [], [], [], [], [], [], [], [], [], []]
def pmCaT : List (List (Nat × Nat × Nat)) := [[], [], [], [], [], [], [], [], [], [], [], [], [], [(13, 1, 533), (19, 0, 612), (21, 3, 613), (26, 2, 677)], [], []]
def pmSrT : List (List (Nat × Nat)) := [[], [], [], [], [], [], [], [(38, 581), (57, 627), (64, 637), (84, 648), (102, 697), (108, 705), (122, 719), (127, 721), (145, 740), (157, 742), (165, 752), (173, 761), (184, 816), (207, 947), (216, 956), (237, 977), (249, 993), (251, 994), (256, 1003), (258, 1004), (274, 686), (276, 976), (278, 925), (280, 938), (282, 756)], [], [], [], [], [], [], [], []]
def pmStr : List (Nat × String) := [(38, "no picture may have these sizes, bits or kind"), (57, "there is no picture with a palette"), (64, "a part of a colour is 0 .. 255"), (84, "the palette is full"), (102, "the picture has no such sample"), (108, "a sample has no such number"), (122, "there is no such tag"), (127, "this tag has no such number"), (145, "an extra may not have these letters"), (157, "there are as many extras as may be"), (165, "the picture has no such extra"), (173, "the extra has as many bytes as may be"), (184, "the palette has no entry"), (207, "fewer bytes than none"), (216, "no such byte was fed"), (237, "what was read has no such sample"), (249, "what was read has no such entry"), (251, "an entry has no such part"), (256, "what was read has no such extra"), (258, "the extra has no such byte"), (274, "there is no picture"), (276, "nothing was read"), (278, "no such byte was written"), (280, "no more bytes can be fed"), (282, "a byte is 0 .. 255")]
def pmXs : List String := ["java/lang/IllegalStateException", "java/lang/IllegalArgumentException", "java/lang/IndexOutOfBoundsException", "java/lang/UnsupportedOperationException"]

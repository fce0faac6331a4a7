def R_Pk : String := "PackColumns"
def R_Bytes : String := "PackColumns$Bytes"
def R_Crc : String := "PackColumns$Crc"
def R_Ints : String := "PackColumns$Ints"
def R_Packer : String := "PackColumns$Packer"
def R_Reader : String := "PackColumns$Reader"
def R_Unpacker : String := "PackColumns$Unpacker"
def R_Utf8 : String := "PackColumns$Utf8"
def R_Varints : String := "PackColumns$Varints"
def R_Mo : String := "PackColumnsModel"
def R_Law : String := "PackColumnsLaw"
def F_Pk : u_T := fun k => match k with
  | 0 => ("PackColumns", "tape", "LPackColumns$Bytes;", true)
  | 1 => ("PackColumns", "packer", "LPackColumns$Packer;", true)
  | 2 => ("PackColumns", "out", "LPackColumns$Bytes;", false)
  | 3 => ("PackColumns", "spareBytes", "LPackColumns$Bytes;", false)
  | 4 => ("PackColumns", "codes", "LPackColumns$Ints;", false)
  | 5 => ("PackColumns", "numbers", "LPackColumns$Ints;", false)
  | _ => ("PackColumns", "spareInts", "LPackColumns$Ints;", false)
def t_Pk : Nat → FieldType := fun k => match k with
  | 0 => .object "PackColumns$Bytes"
  | 1 => .object "PackColumns$Packer"
  | 2 => .object "PackColumns$Bytes"
  | 3 => .object "PackColumns$Bytes"
  | 4 => .object "PackColumns$Ints"
  | 5 => .object "PackColumns$Ints"
  | _ => .object "PackColumns$Ints"
def F_Bytes : u_T := fun k => match k with
  | 0 => ("PackColumns$Bytes", "row", "[B", true)
  | _ => ("PackColumns$Bytes", "length", "I", false)
def t_Bytes : Nat → FieldType := fun k => match k with
  | 0 => .array .byte
  | _ => .int
def F_Ints : u_T := fun k => match k with
  | 0 => ("PackColumns$Ints", "row", "[I", true)
  | _ => ("PackColumns$Ints", "length", "I", false)
def t_Ints : Nat → FieldType := fun k => match k with
  | 0 => .array .int
  | _ => .int
def F_Packer : u_T := fun k => match k with
  | 0 => ("PackColumns$Packer", "nearest", "[I", true)
  | 1 => ("PackColumns$Packer", "next", "[I", true)
  | 2 => ("PackColumns$Packer", "bestCount", "I", false)
  | _ => ("PackColumns$Packer", "bestDistance", "I", false)
def t_Packer : Nat → FieldType := fun k => match k with
  | 0 => .array .int
  | 1 => .array .int
  | 2 => .int
  | _ => .int
def F_Reader : u_T := fun k => match k with
  | 0 => ("PackColumns$Reader", "from", "LPackColumns$Bytes;", true)
  | _ => ("PackColumns$Reader", "place", "I", false)
def t_Reader : Nat → FieldType := fun k => match k with
  | 0 => .object "PackColumns$Bytes"
  | _ => .int
def F_Mo : u_T := fun k => match k with
  | 0 => ("PackColumnsModel", "tape", "[B", true)
  | 1 => ("PackColumnsModel", "out", "[B", true)
  | 2 => ("PackColumnsModel", "made", "[B", true)
  | 3 => ("PackColumnsModel", "tapeSize", "I", false)
  | 4 => ("PackColumnsModel", "outSize", "I", false)
  | 5 => ("PackColumnsModel", "madeSize", "I", false)
  | 6 => ("PackColumnsModel", "codes", "[I", true)
  | 7 => ("PackColumnsModel", "numbers", "[I", true)
  | 8 => ("PackColumnsModel", "list", "[I", true)
  | 9 => ("PackColumnsModel", "codesMany", "I", false)
  | 10 => ("PackColumnsModel", "numbersMany", "I", false)
  | 11 => ("PackColumnsModel", "at", "I", false)
  | _ => ("PackColumnsModel", "thrown", "I", false)
def t_Mo : Nat → FieldType := fun k => match k with
  | 0 => .array .byte
  | 1 => .array .byte
  | 2 => .array .byte
  | 3 => .int
  | 4 => .int
  | 5 => .int
  | 6 => .array .int
  | 7 => .array .int
  | 8 => .array .int
  | 9 => .int
  | 10 => .int
  | 11 => .int
  | _ => .int
/-- the kinds of objects that the worlds hold -/
abbrev pc_cl : List vw_C := [(R_Pk, F_Pk, 7), (R_Bytes, F_Bytes, 2), (R_Ints, F_Ints, 2), (R_Packer, F_Packer, 4), (R_Reader, F_Reader, 2), (R_Mo, F_Mo, 13)]
def y_Pk_init : MethodName := ⟨R_Pk, "<init>", "()V"⟩
def y_Bytes_init : MethodName := ⟨R_Bytes, "<init>", "()V"⟩
def y_Packer_init : MethodName := ⟨R_Packer, "<init>", "()V"⟩
def y_Ints_init : MethodName := ⟨R_Ints, "<init>", "()V"⟩
def y_Law_feed : MethodName := ⟨R_Law, "feed", "(LPackColumns;IIIII)I"⟩
def y_Pk_feed : MethodName := ⟨R_Pk, "feed", "(IIIII)V"⟩
def y_Bytes_hasRoomFor : MethodName := ⟨R_Bytes, "hasRoomFor", "(I)Z"⟩
def y_Bytes_addFour : MethodName := ⟨R_Bytes, "addFour", "(I)V"⟩
def y_Bytes_add : MethodName := ⟨R_Bytes, "add", "(I)V"⟩
def y_Law_end : MethodName := ⟨R_Law, "end", "(LPackColumns;I[J)I"⟩
def y_Pk_end : MethodName := ⟨R_Pk, "end", "(I)I"⟩
def y_Law_pack : MethodName := ⟨R_Law, "pack", "(LPackColumns;[J)I"⟩
def y_Pk_pack : MethodName := ⟨R_Pk, "pack", "()I"⟩
def y_Packer_write : MethodName := ⟨R_Packer, "write", "(LPackColumns$Bytes;LPackColumns$Bytes;)Z"⟩
def y_Varints_write : MethodName := ⟨R_Varints, "write", "(ILPackColumns$Bytes;)V"⟩
def y_Varints_size : MethodName := ⟨R_Varints, "size", "(I)I"⟩
def y_Packer_search : MethodName := ⟨R_Packer, "search", "(LPackColumns$Bytes;I)V"⟩
def y_Packer_bucket : MethodName := ⟨R_Packer, "bucket", "(LPackColumns$Bytes;I)I"⟩
def y_Bytes_at : MethodName := ⟨R_Bytes, "at", "(I)I"⟩
def y_Bytes_countSame : MethodName := ⟨R_Bytes, "countSame", "(III)I"⟩
def y_Packer_writePlain : MethodName := ⟨R_Packer, "writePlain", "(LPackColumns$Bytes;IILPackColumns$Bytes;)Z"⟩
def y_Bytes_addRun : MethodName := ⟨R_Bytes, "addRun", "(LPackColumns$Bytes;II)V"⟩
def y_Packer_writePointer : MethodName := ⟨R_Packer, "writePointer", "(LPackColumns$Bytes;)Z"⟩
def y_Packer_remember : MethodName := ⟨R_Packer, "remember", "(LPackColumns$Bytes;I)V"⟩
def y_Pk_takeSpareAsOut : MethodName := ⟨R_Pk, "takeSpareAsOut", "()I"⟩
def y_Law_unpack : MethodName := ⟨R_Law, "unpack", "(LPackColumns;[J)I"⟩
def y_Pk_unpack : MethodName := ⟨R_Pk, "unpack", "()I"⟩
def y_Reader_init : MethodName := ⟨R_Reader, "<init>", "(LPackColumns$Bytes;)V"⟩
def y_Unpacker_write : MethodName := ⟨R_Unpacker, "write", "(LPackColumns$Reader;LPackColumns$Bytes;)Z"⟩
def y_Reader_takeVarint : MethodName := ⟨R_Reader, "takeVarint", "()I"⟩
def y_Reader_takeByte : MethodName := ⟨R_Reader, "takeByte", "()I"⟩
def y_Reader_left : MethodName := ⟨R_Reader, "left", "()I"⟩
def y_Unpacker_writePiece : MethodName := ⟨R_Unpacker, "writePiece", "(LPackColumns$Reader;LPackColumns$Bytes;I)Z"⟩
def y_Unpacker_writePlain : MethodName := ⟨R_Unpacker, "writePlain", "(LPackColumns$Reader;LPackColumns$Bytes;I)Z"⟩
def y_Reader_takeRun : MethodName := ⟨R_Reader, "takeRun", "(ILPackColumns$Bytes;)V"⟩
def y_Unpacker_writePointed : MethodName := ⟨R_Unpacker, "writePointed", "(LPackColumns$Reader;LPackColumns$Bytes;I)Z"⟩
def y_Bytes_addFromBack : MethodName := ⟨R_Bytes, "addFromBack", "(II)V"⟩
def y_Law_text : MethodName := ⟨R_Law, "text", "(LPackColumns;[J)I"⟩
def y_Pk_text : MethodName := ⟨R_Pk, "text", "()I"⟩
def y_Reader_takeAllCharacters : MethodName := ⟨R_Reader, "takeAllCharacters", "(LPackColumns$Ints;)Z"⟩
def y_Reader_takeCharacter : MethodName := ⟨R_Reader, "takeCharacter", "()I"⟩
def y_Utf8_sizeByFirst : MethodName := ⟨R_Utf8, "sizeByFirst", "(I)I"⟩
def y_Utf8_markOfFirst : MethodName := ⟨R_Utf8, "markOfFirst", "(I)I"⟩
def y_Utf8_isCharacter : MethodName := ⟨R_Utf8, "isCharacter", "(I)Z"⟩
def y_Utf8_size : MethodName := ⟨R_Utf8, "size", "(I)I"⟩
def y_Ints_add : MethodName := ⟨R_Ints, "add", "(I)V"⟩
def y_Law_code : MethodName := ⟨R_Law, "code", "(LPackColumns;I[J)I"⟩
def y_Pk_code : MethodName := ⟨R_Pk, "code", "(I)I"⟩
def y_Law_letter : MethodName := ⟨R_Law, "letter", "(LPackColumns;I[J)I"⟩
def y_Pk_letter : MethodName := ⟨R_Pk, "letter", "(I)I"⟩
def y_Utf8_write : MethodName := ⟨R_Utf8, "write", "(ILPackColumns$Bytes;)V"⟩
def y_Law_varint : MethodName := ⟨R_Law, "varint", "(LPackColumns;I[J)I"⟩
def y_Pk_varint : MethodName := ⟨R_Pk, "varint", "(I)I"⟩
def y_Law_zigzag : MethodName := ⟨R_Law, "zigzag", "(LPackColumns;I[J)I"⟩
def y_Pk_zigzag : MethodName := ⟨R_Pk, "zigzag", "(I)I"⟩
def y_Law_unzigzag : MethodName := ⟨R_Law, "unzigzag", "(LPackColumns;I[J)I"⟩
def y_Pk_unzigzag : MethodName := ⟨R_Pk, "unzigzag", "(I)I"⟩
def y_Law_numbers : MethodName := ⟨R_Law, "numbers", "(LPackColumns;[J)I"⟩
def y_Pk_numbers : MethodName := ⟨R_Pk, "numbers", "()I"⟩
def y_Reader_takeAllVarints : MethodName := ⟨R_Reader, "takeAllVarints", "(LPackColumns$Ints;)Z"⟩
def y_Law_number : MethodName := ⟨R_Law, "number", "(LPackColumns;I[J)I"⟩
def y_Pk_number : MethodName := ⟨R_Pk, "number", "(I)I"⟩
def y_Law_checksum : MethodName := ⟨R_Law, "checksum", "(LPackColumns;I[J)I"⟩
def y_Pk_checksum : MethodName := ⟨R_Pk, "checksum", "(I)I"⟩
def y_Crc_ofFirst : MethodName := ⟨R_Crc, "ofFirst", "(ILPackColumns$Bytes;)I"⟩
def y_Law_octet : MethodName := ⟨R_Law, "octet", "(LPackColumns;I[J)I"⟩
def y_Pk_octet : MethodName := ⟨R_Pk, "octet", "(I)I"⟩
def y_Law_back : MethodName := ⟨R_Law, "back", "(LPackColumns;[J)I"⟩
def y_Pk_back : MethodName := ⟨R_Pk, "back", "()I"⟩
def y_Mo_init : MethodName := ⟨R_Mo, "<init>", "()V"⟩
def y_Mo_thrown : MethodName := ⟨R_Mo, "thrown", "()I"⟩
def y_Mo_feed : MethodName := ⟨R_Mo, "feed", "(IIIII)V"⟩
def y_Mo_feed0 : MethodName := ⟨R_Mo, "feed0", "(IIIII)V"⟩
def y_Mo_end : MethodName := ⟨R_Mo, "end", "(I)I"⟩
def y_Mo_end0 : MethodName := ⟨R_Mo, "end0", "(I)I"⟩
def y_Mo_pack : MethodName := ⟨R_Mo, "pack", "()I"⟩
def y_Mo_pack0 : MethodName := ⟨R_Mo, "pack0", "()I"⟩
def y_Mo_write : MethodName := ⟨R_Mo, "write", "(I)Z"⟩
def y_Mo_one : MethodName := ⟨R_Mo, "one", "(I)Z"⟩
def y_Mo_longest : MethodName := ⟨R_Mo, "longest", "(II)I"⟩
def y_Mo_plain : MethodName := ⟨R_Mo, "plain", "(II)Z"⟩
def y_Mo_keep : MethodName := ⟨R_Mo, "keep", "()V"⟩
def y_Mo_unpack : MethodName := ⟨R_Mo, "unpack", "()I"⟩
def y_Mo_unpack0 : MethodName := ⟨R_Mo, "unpack0", "()I"⟩
def y_Mo_unpacks : MethodName := ⟨R_Mo, "unpacks", "(I)Z"⟩
def y_Mo_read : MethodName := ⟨R_Mo, "read", "(I)I"⟩
def y_Mo_text : MethodName := ⟨R_Mo, "text", "()I"⟩
def y_Mo_text0 : MethodName := ⟨R_Mo, "text0", "()I"⟩
def y_Mo_character : MethodName := ⟨R_Mo, "character", "(II)I"⟩
def y_Mo_isCharacter : MethodName := ⟨R_Mo, "isCharacter", "(I)Z"⟩
def y_Mo_width : MethodName := ⟨R_Mo, "width", "(I)I"⟩
def y_Mo_code : MethodName := ⟨R_Mo, "code", "(I)I"⟩
def y_Mo_code0 : MethodName := ⟨R_Mo, "code0", "(I)I"⟩
def y_Mo_letter : MethodName := ⟨R_Mo, "letter", "(I)I"⟩
def y_Mo_letter0 : MethodName := ⟨R_Mo, "letter0", "(I)I"⟩
def y_Mo_room : MethodName := ⟨R_Mo, "room", "(I)V"⟩
def y_Mo_varint : MethodName := ⟨R_Mo, "varint", "(I)I"⟩
def y_Mo_varint0 : MethodName := ⟨R_Mo, "varint0", "(I)I"⟩
def y_Mo_zigzag : MethodName := ⟨R_Mo, "zigzag", "(I)I"⟩
def y_Mo_zigzag0 : MethodName := ⟨R_Mo, "zigzag0", "(I)I"⟩
def y_Mo_unzigzag : MethodName := ⟨R_Mo, "unzigzag", "(I)I"⟩
def y_Mo_unzigzag0 : MethodName := ⟨R_Mo, "unzigzag0", "(I)I"⟩
def y_Mo_numbers : MethodName := ⟨R_Mo, "numbers", "()I"⟩
def y_Mo_numbers0 : MethodName := ⟨R_Mo, "numbers0", "()I"⟩
def y_Mo_number : MethodName := ⟨R_Mo, "number", "(I)I"⟩
def y_Mo_number0 : MethodName := ⟨R_Mo, "number0", "(I)I"⟩
def y_Mo_checksum : MethodName := ⟨R_Mo, "checksum", "(I)I"⟩
def y_Mo_checksum0 : MethodName := ⟨R_Mo, "checksum0", "(I)I"⟩
def y_Mo_octet : MethodName := ⟨R_Mo, "octet", "(I)I"⟩
def y_Mo_octet0 : MethodName := ⟨R_Mo, "octet0", "(I)I"⟩
def y_Mo_back : MethodName := ⟨R_Mo, "back", "()I"⟩
def y_Mo_back0 : MethodName := ⟨R_Mo, "back0", "()I"⟩
/-- a word that stays true as the tables warm -/
def pc_ok : Cond → Bool
  | .fieldLinkNest .. => true
  | .methodLinkNest .. => true
  | .castable .. => true
  | w => goodWord w
def pc_T : List Cond := lw_tbl.filter pc_ok
theorem pc_mem {w : Cond} {i : Nat} (h : tables_1[i]? = some w) (h2 : pc_ok w = true) : w ∈ pc_T := List.mem_filter.mpr ⟨List.mem_append_right _ (List.mem_of_getElem? h), h2⟩
theorem pc_mes {w : Cond} {i : Nat} (h : (k2_sels lw_privs)[i]? = some w) (h2 : pc_ok w = true) : w ∈ pc_T := List.mem_filter.mpr ⟨List.mem_append_left _ (List.mem_of_getElem? h), h2⟩
theorem nn_Pk : ∀ a, a < 7 → ∀ b, b < 7 → a ≠ b → (F_Pk a).2.1 ≠ (F_Pk b).2.1 := by decide +kernel
theorem tk_Pk : ∀ k, k < 7 → parseFieldDescriptor (F_Pk k).2.2.1 = some (t_Pk k) := by decide +kernel
theorem in_Pk : ∀ w ∈ u_ws R_Pk F_Pk 7, w ∈ pc_T := by decide +kernel
theorem nn_Bytes : ∀ a, a < 2 → ∀ b, b < 2 → a ≠ b → (F_Bytes a).2.1 ≠ (F_Bytes b).2.1 := by decide +kernel
theorem tk_Bytes : ∀ k, k < 2 → parseFieldDescriptor (F_Bytes k).2.2.1 = some (t_Bytes k) := by decide +kernel
theorem in_Bytes : ∀ w ∈ u_ws R_Bytes F_Bytes 2, w ∈ pc_T := by decide +kernel
theorem nn_Ints : ∀ a, a < 2 → ∀ b, b < 2 → a ≠ b → (F_Ints a).2.1 ≠ (F_Ints b).2.1 := by decide +kernel
theorem tk_Ints : ∀ k, k < 2 → parseFieldDescriptor (F_Ints k).2.2.1 = some (t_Ints k) := by decide +kernel
theorem in_Ints : ∀ w ∈ u_ws R_Ints F_Ints 2, w ∈ pc_T := by decide +kernel
theorem nn_Packer : ∀ a, a < 4 → ∀ b, b < 4 → a ≠ b → (F_Packer a).2.1 ≠ (F_Packer b).2.1 := by decide +kernel
theorem tk_Packer : ∀ k, k < 4 → parseFieldDescriptor (F_Packer k).2.2.1 = some (t_Packer k) := by decide +kernel
theorem in_Packer : ∀ w ∈ u_ws R_Packer F_Packer 4, w ∈ pc_T := by decide +kernel
theorem nn_Reader : ∀ a, a < 2 → ∀ b, b < 2 → a ≠ b → (F_Reader a).2.1 ≠ (F_Reader b).2.1 := by decide +kernel
theorem tk_Reader : ∀ k, k < 2 → parseFieldDescriptor (F_Reader k).2.2.1 = some (t_Reader k) := by decide +kernel
theorem in_Reader : ∀ w ∈ u_ws R_Reader F_Reader 2, w ∈ pc_T := by decide +kernel
theorem nn_Mo : ∀ a, a < 13 → ∀ b, b < 13 → a ≠ b → (F_Mo a).2.1 ≠ (F_Mo b).2.1 := by decide +kernel
theorem tk_Mo : ∀ k, k < 13 → parseFieldDescriptor (F_Mo k).2.2.1 = some (t_Mo k) := by decide +kernel
theorem in_Mo : ∀ w ∈ u_ws R_Mo F_Mo 13, w ∈ pc_T := by decide +kernel

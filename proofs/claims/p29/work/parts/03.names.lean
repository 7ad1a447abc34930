def RX0 : String := "SignTiles$Change"
def TX0 : u_T := fun k => match k with
  | 0 => ("SignTiles$Change", "kind", "I", true)
  | 1 => ("SignTiles$Change", "direction", "I", true)
  | _ => ("SignTiles$Change", "editor", "I", true)
def tyX0 : Nat → FieldType := fun k => match k with
  | 0 => .int
  | 1 => .int
  | _ => .int
abbrev wsX00 : List Cond := u_ws RX0 TX0 3
theorem nmX0 : ∀ a, a < 3 → ∀ b, b < 3 → a ≠ b → (TX0 a).2.1 ≠ (TX0 b).2.1 := by decide +kernel
theorem tyX0_ok : ∀ k, k < 3 → parseFieldDescriptor (TX0 k).2.2.1 = some (tyX0 k) := by decide +kernel
abbrev cX0_init : ByteArray := prog_2_method_1_code
def yX0_init : MethodName := ⟨RX0, "<init>", "(III)V"⟩
abbrev cX0_coded : ByteArray := prog_2_method_2_code
def yX0_coded : MethodName := ⟨RX0, "coded", "()I"⟩
def RX1 : String := "SignTiles$Tile"
def TX1 : u_T := fun k => match k with
  | 0 => ("SignTiles$Tile", "zoom", "I", true)
  | 1 => ("SignTiles$Tile", "left", "I", true)
  | 2 => ("SignTiles$Tile", "right", "I", true)
  | 3 => ("SignTiles$Tile", "top", "I", true)
  | 4 => ("SignTiles$Tile", "bottom", "I", true)
  | 5 => ("SignTiles$Tile", "stamp", "I", false)
  | _ => ("SignTiles$Tile", "picture", "I", false)
def tyX1 : Nat → FieldType := fun k => match k with
  | 0 => .int
  | 1 => .int
  | 2 => .int
  | 3 => .int
  | 4 => .int
  | 5 => .int
  | _ => .int
abbrev wsX10 : List Cond := u_ws RX1 TX1 7
theorem nmX1 : ∀ a, a < 7 → ∀ b, b < 7 → a ≠ b → (TX1 a).2.1 ≠ (TX1 b).2.1 := by decide +kernel
theorem tyX1_ok : ∀ k, k < 7 → parseFieldDescriptor (TX1 k).2.2.1 = some (tyX1 k) := by decide +kernel
abbrev cX1_init : ByteArray := prog_3_method_1_code
def yX1_init : MethodName := ⟨RX1, "<init>", "(III)V"⟩
abbrev cX1_shows : ByteArray := prog_3_method_2_code
def yX1_shows : MethodName := ⟨RX1, "shows", "(LSignTiles$Version;)Z"⟩
def RX2 : String := "SignTiles$Version"
def TX2 : u_T := fun k => match k with
  | 0 => ("SignTiles$Version", "change", "LSignTiles$Change;", true)
  | 1 => ("SignTiles$Version", "stamp", "I", true)
  | 2 => ("SignTiles$Version", "number", "I", true)
  | _ => ("SignTiles$Version", "ahead", "LSignTiles$Version;", true)
def tyX2 : Nat → FieldType := fun k => match k with
  | 0 => .object "SignTiles$Change"
  | 1 => .int
  | 2 => .int
  | _ => .object "SignTiles$Version"
abbrev wsX20 : List Cond := u_ws RX2 TX2 4
theorem nmX2 : ∀ a, a < 4 → ∀ b, b < 4 → a ≠ b → (TX2 a).2.1 ≠ (TX2 b).2.1 := by decide +kernel
theorem tyX2_ok : ∀ k, k < 4 → parseFieldDescriptor (TX2 k).2.2.1 = some (tyX2 k) := by decide +kernel
abbrev cX2_init : ByteArray := prog_4_method_1_code
def yX2_init : MethodName := ⟨RX2, "<init>", "(LSignTiles$Change;ILSignTiles$Version;)V"⟩
def RX3 : String := "SignTiles$Way"
def TX3 : u_T := fun k => match k with
  | 0 => ("SignTiles$Way", "beginX", "I", true)
  | 1 => ("SignTiles$Way", "beginY", "I", true)
  | 2 => ("SignTiles$Way", "endX", "I", true)
  | 3 => ("SignTiles$Way", "endY", "I", true)
  | 4 => ("SignTiles$Way", "guard", "I", false)
  | 5 => ("SignTiles$Way", "latest", "LSignTiles$Version;", false)
  | 6 => ("SignTiles$Way", "waiting", "LSignTiles$Change;", false)
  | _ => ("SignTiles$Way", "doubts", "[I", true)
def tyX3 : Nat → FieldType := fun k => match k with
  | 0 => .int
  | 1 => .int
  | 2 => .int
  | 3 => .int
  | 4 => .int
  | 5 => .object "SignTiles$Version"
  | 6 => .object "SignTiles$Change"
  | _ => .array .int
abbrev wsX30 : List Cond := u_ws RX3 TX3 8
theorem nmX3 : ∀ a, a < 8 → ∀ b, b < 8 → a ≠ b → (TX3 a).2.1 ≠ (TX3 b).2.1 := by decide +kernel
theorem tyX3_ok : ∀ k, k < 8 → parseFieldDescriptor (TX3 k).2.2.1 = some (tyX3 k) := by decide +kernel
abbrev cX3_init : ByteArray := prog_5_method_1_code
def yX3_init : MethodName := ⟨RX3, "<init>", "(IIIILSignTiles$Version;)V"⟩
abbrev cX3_kind : ByteArray := prog_5_method_2_code
def yX3_kind : MethodName := ⟨RX3, "kind", "()I"⟩
abbrev cX3_direction : ByteArray := prog_5_method_3_code
def yX3_direction : MethodName := ⟨RX3, "direction", "()I"⟩
abbrev cX3_versionCount : ByteArray := prog_5_method_4_code
def yX3_versionCount : MethodName := ⟨RX3, "versionCount", "()I"⟩
abbrev cX3_distanceFromBegin : ByteArray := prog_5_method_5_code
def yX3_distanceFromBegin : MethodName := ⟨RX3, "distanceFromBegin", "(II)I"⟩
abbrev cX3_distanceFromEnd : ByteArray := prog_5_method_6_code
def yX3_distanceFromEnd : MethodName := ⟨RX3, "distanceFromEnd", "(II)I"⟩
abbrev cX3_distanceFrom : ByteArray := prog_5_method_7_code
def yX3_distanceFrom : MethodName := ⟨RX3, "distanceFrom", "(II)I"⟩
abbrev cX3_hasPartIn : ByteArray := prog_5_method_8_code
def yX3_hasPartIn : MethodName := ⟨RX3, "hasPartIn", "(LSignTiles$Tile;)Z"⟩
abbrev cX3_shownIn : ByteArray := prog_5_method_9_code
def yX3_shownIn : MethodName := ⟨RX3, "shownIn", "(LSignTiles$Tile;I)LSignTiles$Change;"⟩
abbrev cX3_outdates : ByteArray := prog_5_method_10_code
def yX3_outdates : MethodName := ⟨RX3, "outdates", "(LSignTiles$Tile;)Z"⟩
abbrev cX3_keepSighting : ByteArray := prog_5_method_11_code
def yX3_keepSighting : MethodName := ⟨RX3, "keepSighting", "(III)V"⟩
abbrev cX3_hasAgreementOn : ByteArray := prog_5_method_12_code
def yX3_hasAgreementOn : MethodName := ⟨RX3, "hasAgreementOn", "(I)Z"⟩
abbrev cX3_forgetSightings : ByteArray := prog_5_method_13_code
def yX3_forgetSightings : MethodName := ⟨RX3, "forgetSightings", "()V"⟩
abbrev cX3_countSightings : ByteArray := prog_5_method_14_code
def yX3_countSightings : MethodName := ⟨RX3, "countSightings", "()I"⟩
abbrev cX3_dearness : ByteArray := prog_5_method_15_code
def yX3_dearness : MethodName := ⟨RX3, "dearness", "()I"⟩
def RX4 : String := "SignTiles"
def TX4 : u_T := fun k => match k with
  | 0 => ("SignTiles", "ways", "Ljava/util/ArrayList;", true)
  | 1 => ("SignTiles", "trusts", "[I", true)
  | 2 => ("SignTiles", "carX", "[I", true)
  | 3 => ("SignTiles", "carY", "[I", true)
  | 4 => ("SignTiles", "tiles", "[LSignTiles$Tile;", true)
  | _ => ("SignTiles", "changes", "I", false)
def tyX4 : Nat → FieldType := fun k => match k with
  | 0 => .object "java/util/ArrayList"
  | 1 => .array .int
  | 2 => .array .int
  | 3 => .array .int
  | 4 => .array (.object "SignTiles$Tile")
  | _ => .int
abbrev wsX40 : List Cond := u_ws RX4 TX4 6
theorem nmX4 : ∀ a, a < 6 → ∀ b, b < 6 → a ≠ b → (TX4 a).2.1 ≠ (TX4 b).2.1 := by decide +kernel
theorem tyX4_ok : ∀ k, k < 6 → parseFieldDescriptor (TX4 k).2.2.1 = some (tyX4 k) := by decide +kernel
abbrev cX4_init : ByteArray := prog_1_method_1_code
def yX4_init : MethodName := ⟨RX4, "<init>", "()V"⟩
abbrev cX4_addWay : ByteArray := prog_1_method_2_code
def yX4_addWay : MethodName := ⟨RX4, "addWay", "(IIIII)I"⟩
abbrev cX4_edit : ByteArray := prog_1_method_3_code
def yX4_edit : MethodName := ⟨RX4, "edit", "(IIII)Z"⟩
abbrev cX4_judge : ByteArray := prog_1_method_4_code
def yX4_judge : MethodName := ⟨RX4, "judge", "(IIZ)I"⟩
abbrev cX4_revert : ByteArray := prog_1_method_5_code
def yX4_revert : MethodName := ⟨RX4, "revert", "(II)I"⟩
abbrev cX4_guard : ByteArray := prog_1_method_6_code
def yX4_guard : MethodName := ⟨RX4, "guard", "(II)I"⟩
abbrev cX4_trust : ByteArray := prog_1_method_7_code
def yX4_trust : MethodName := ⟨RX4, "trust", "(I)I"⟩
abbrev cX4_ways : ByteArray := prog_1_method_8_code
def yX4_ways : MethodName := ⟨RX4, "ways", "()I"⟩
abbrev cX4_versions : ByteArray := prog_1_method_9_code
def yX4_versions : MethodName := ⟨RX4, "versions", "(I)I"⟩
abbrev cX4_version : ByteArray := prog_1_method_10_code
def yX4_version : MethodName := ⟨RX4, "version", "(II)I"⟩
abbrev cX4_stampOf : ByteArray := prog_1_method_11_code
def yX4_stampOf : MethodName := ⟨RX4, "stampOf", "(II)I"⟩
abbrev cX4_waiting : ByteArray := prog_1_method_12_code
def yX4_waiting : MethodName := ⟨RX4, "waiting", "(I)I"⟩
abbrev cX4_clock : ByteArray := prog_1_method_13_code
def yX4_clock : MethodName := ⟨RX4, "clock", "()I"⟩
abbrev cX4_draw : ByteArray := prog_1_method_14_code
def yX4_draw : MethodName := ⟨RX4, "draw", "(III)I"⟩
abbrev cX4_picture : ByteArray := prog_1_method_15_code
def yX4_picture : MethodName := ⟨RX4, "picture", "(III)I"⟩
abbrev cX4_pictureAnew : ByteArray := prog_1_method_16_code
def yX4_pictureAnew : MethodName := ⟨RX4, "pictureAnew", "(III)I"⟩
abbrev cX4_tileStamp : ByteArray := prog_1_method_17_code
def yX4_tileStamp : MethodName := ⟨RX4, "tileStamp", "(III)I"⟩
abbrev cX4_isStale : ByteArray := prog_1_method_18_code
def yX4_isStale : MethodName := ⟨RX4, "isStale", "(III)Z"⟩
abbrev cX4_staleTiles : ByteArray := prog_1_method_19_code
def yX4_staleTiles : MethodName := ⟨RX4, "staleTiles", "(I)I"⟩
abbrev cX4_refresh : ByteArray := prog_1_method_20_code
def yX4_refresh : MethodName := ⟨RX4, "refresh", "()I"⟩
abbrev cX4_drive : ByteArray := prog_1_method_21_code
def yX4_drive : MethodName := ⟨RX4, "drive", "(III)I"⟩
abbrev cX4_see : ByteArray := prog_1_method_22_code
def yX4_see : MethodName := ⟨RX4, "see", "(IIII)Z"⟩
abbrev cX4_sightings : ByteArray := prog_1_method_23_code
def yX4_sightings : MethodName := ⟨RX4, "sightings", "(I)I"⟩
abbrev cX4_dear : ByteArray := prog_1_method_24_code
def yX4_dear : MethodName := ⟨RX4, "dear", "(I)I"⟩
abbrev cX4_target : ByteArray := prog_1_method_25_code
def yX4_target : MethodName := ⟨RX4, "target", "(I)I"⟩
abbrev cX4_send : ByteArray := prog_1_method_26_code
def yX4_send : MethodName := ⟨RX4, "send", "(I)I"⟩
abbrev cX4_carAt : ByteArray := prog_1_method_27_code
def yX4_carAt : MethodName := ⟨RX4, "carAt", "(I)I"⟩
abbrev cX4_isIn : ByteArray := prog_1_method_28_code
def yX4_isIn : MethodName := ⟨RX4, "isIn", "(III)Z"⟩
abbrev cX4_isKind : ByteArray := prog_1_method_29_code
def yX4_isKind : MethodName := ⟨RX4, "isKind", "(I)Z"⟩
abbrev cX4_isDirection : ByteArray := prog_1_method_30_code
def yX4_isDirection : MethodName := ⟨RX4, "isDirection", "(I)Z"⟩
abbrev cX4_requireEditor : ByteArray := prog_1_method_31_code
def yX4_requireEditor : MethodName := ⟨RX4, "requireEditor", "(I)V"⟩
abbrev cX4_requireCrossing : ByteArray := prog_1_method_32_code
def yX4_requireCrossing : MethodName := ⟨RX4, "requireCrossing", "(II)V"⟩
abbrev cX4_requireCar : ByteArray := prog_1_method_33_code
def yX4_requireCar : MethodName := ⟨RX4, "requireCar", "(I)V"⟩
abbrev cX4_requireZoom : ByteArray := prog_1_method_34_code
def yX4_requireZoom : MethodName := ⟨RX4, "requireZoom", "(I)V"⟩
abbrev cX4_wayAt : ByteArray := prog_1_method_35_code
def yX4_wayAt : MethodName := ⟨RX4, "wayAt", "(I)LSignTiles$Way;"⟩
abbrev cX4_versionAt : ByteArray := prog_1_method_36_code
def yX4_versionAt : MethodName := ⟨RX4, "versionAt", "(LSignTiles$Way;I)LSignTiles$Version;"⟩
abbrev cX4_isFull : ByteArray := prog_1_method_37_code
def yX4_isFull : MethodName := ⟨RX4, "isFull", "()Z"⟩
abbrev cX4_newVersion : ByteArray := prog_1_method_38_code
def yX4_newVersion : MethodName := ⟨RX4, "newVersion", "(LSignTiles$Change;LSignTiles$Version;)LSignTiles$Version;"⟩
abbrev cX4_addVersion : ByteArray := prog_1_method_39_code
def yX4_addVersion : MethodName := ⟨RX4, "addVersion", "(LSignTiles$Way;LSignTiles$Change;)V"⟩
abbrev cX4_addTrust : ByteArray := prog_1_method_40_code
def yX4_addTrust : MethodName := ⟨RX4, "addTrust", "(II)I"⟩
abbrev cX4_tilesAcross : ByteArray := prog_1_method_41_code
def yX4_tilesAcross : MethodName := ⟨RX4, "tilesAcross", "(I)I"⟩
abbrev cX4_tileIndex : ByteArray := prog_1_method_42_code
def yX4_tileIndex : MethodName := ⟨RX4, "tileIndex", "(III)I"⟩
abbrev cX4_drawnTile : ByteArray := prog_1_method_43_code
def yX4_drawnTile : MethodName := ⟨RX4, "drawnTile", "(III)LSignTiles$Tile;"⟩
abbrev cX4_keepPicture : ByteArray := prog_1_method_44_code
def yX4_keepPicture : MethodName := ⟨RX4, "keepPicture", "(LSignTiles$Tile;)V"⟩
abbrev cX4_pictureAt : ByteArray := prog_1_method_45_code
def yX4_pictureAt : MethodName := ⟨RX4, "pictureAt", "(LSignTiles$Tile;I)I"⟩
abbrev cX4_countWaysIn : ByteArray := prog_1_method_46_code
def yX4_countWaysIn : MethodName := ⟨RX4, "countWaysIn", "(LSignTiles$Tile;)I"⟩
abbrev cX4_isOutdated : ByteArray := prog_1_method_47_code
def yX4_isOutdated : MethodName := ⟨RX4, "isOutdated", "(LSignTiles$Tile;)Z"⟩
abbrev cX4_distance : ByteArray := prog_1_method_48_code
def yX4_distance : MethodName := ⟨RX4, "distance", "(IIII)I"⟩
abbrev cX4_targetFrom : ByteArray := prog_1_method_49_code
def yX4_targetFrom : MethodName := ⟨RX4, "targetFrom", "(II)I"⟩
def RX5 : String := "SignTilesModel"
def TX5 : u_T := fun k => match k with
  | _ => ("", "", "", false)
def tyX5 : Nat → FieldType := fun k => match k with
  | _ => .int
abbrev wsX50 : List Cond := u_ws RX5 TX5 0
theorem nmX5 : ∀ a, a < 0 → ∀ b, b < 0 → a ≠ b → (TX5 a).2.1 ≠ (TX5 b).2.1 := by decide +kernel
theorem tyX5_ok : ∀ k, k < 0 → parseFieldDescriptor (TX5 k).2.2.1 = some (tyX5 k) := by decide +kernel
def RJx145de : String := "java/io/Serializable"
def TJx145de : u_T := fun k => match k with
  | _ => ("", "", "", false)
def tyJx145de : Nat → FieldType := fun k => match k with
  | _ => .int
abbrev wsJx145de0 : List Cond := u_ws RJx145de TJx145de 0
theorem nmJx145de : ∀ a, a < 0 → ∀ b, b < 0 → a ≠ b → (TJx145de a).2.1 ≠ (TJx145de b).2.1 := by decide +kernel
theorem tyJx145de_ok : ∀ k, k < 0 → parseFieldDescriptor (TJx145de k).2.2.1 = some (tyJx145de k) := by decide +kernel
def RJx8e188 : String := "java/lang/Cloneable"
def TJx8e188 : u_T := fun k => match k with
  | _ => ("", "", "", false)
def tyJx8e188 : Nat → FieldType := fun k => match k with
  | _ => .int
abbrev wsJx8e1880 : List Cond := u_ws RJx8e188 TJx8e188 0
theorem nmJx8e188 : ∀ a, a < 0 → ∀ b, b < 0 → a ≠ b → (TJx8e188 a).2.1 ≠ (TJx8e188 b).2.1 := by decide +kernel
theorem tyJx8e188_ok : ∀ k, k < 0 → parseFieldDescriptor (TJx8e188 k).2.2.1 = some (tyJx8e188 k) := by decide +kernel
def RJxab1ab : String := "java/lang/Iterable"
def TJxab1ab : u_T := fun k => match k with
  | _ => ("", "", "", false)
def tyJxab1ab : Nat → FieldType := fun k => match k with
  | _ => .int
abbrev wsJxab1ab0 : List Cond := u_ws RJxab1ab TJxab1ab 0
theorem nmJxab1ab : ∀ a, a < 0 → ∀ b, b < 0 → a ≠ b → (TJxab1ab a).2.1 ≠ (TJxab1ab b).2.1 := by decide +kernel
theorem tyJxab1ab_ok : ∀ k, k < 0 → parseFieldDescriptor (TJxab1ab k).2.2.1 = some (tyJxab1ab k) := by decide +kernel
def RJ9 : String := "java/lang/Math"
def TJ9 : u_T := fun k => match k with
  | _ => ("", "", "", false)
def tyJ9 : Nat → FieldType := fun k => match k with
  | _ => .int
abbrev wsJ90 : List Cond := u_ws RJ9 TJ9 0
theorem nmJ9 : ∀ a, a < 0 → ∀ b, b < 0 → a ≠ b → (TJ9 a).2.1 ≠ (TJ9 b).2.1 := by decide +kernel
theorem tyJ9_ok : ∀ k, k < 0 → parseFieldDescriptor (TJ9 k).2.2.1 = some (tyJ9 k) := by decide +kernel
abbrev cJ9_abs_0f7a4 : ByteArray := prog_15_method_59_code
def yJ9_abs_0f7a4 : MethodName := ⟨RJ9, "abs", "(I)I"⟩
abbrev cJ9_max_7cf53 : ByteArray := prog_15_method_65_code
def yJ9_max_7cf53 : MethodName := ⟨RJ9, "max", "(II)I"⟩
abbrev cJ9_min_7cf53 : ByteArray := prog_15_method_69_code
def yJ9_min_7cf53 : MethodName := ⟨RJ9, "min", "(II)I"⟩
def RJ0 : String := "java/lang/String"
def TJ0 : u_T := fun k => match k with
  | _ => ("", "", "", false)
def tyJ0 : Nat → FieldType := fun k => match k with
  | _ => .int
abbrev wsJ00 : List Cond := u_ws RJ0 TJ0 0
theorem nmJ0 : ∀ a, a < 0 → ∀ b, b < 0 → a ≠ b → (TJ0 a).2.1 ≠ (TJ0 b).2.1 := by decide +kernel
theorem tyJ0_ok : ∀ k, k < 0 → parseFieldDescriptor (TJ0 k).2.2.1 = some (tyJ0 k) := by decide +kernel
def RJ10 : String := "java/lang/System"
def TJ10 : u_T := fun k => match k with
  | _ => ("", "", "", false)
def tyJ10 : Nat → FieldType := fun k => match k with
  | _ => .int
abbrev wsJ100 : List Cond := u_ws RJ10 TJ10 0
theorem nmJ10 : ∀ a, a < 0 → ∀ b, b < 0 → a ≠ b → (TJ10 a).2.1 ≠ (TJ10 b).2.1 := by decide +kernel
theorem tyJ10_ok : ∀ k, k < 0 → parseFieldDescriptor (TJ10 k).2.2.1 = some (tyJ10 k) := by decide +kernel
def RJxa1e45 : String := "java/util/AbstractCollection"
def TJxa1e45 : u_T := fun k => match k with
  | _ => ("", "", "", false)
def tyJxa1e45 : Nat → FieldType := fun k => match k with
  | _ => .int
abbrev wsJxa1e450 : List Cond := u_ws RJxa1e45 TJxa1e45 0
theorem nmJxa1e45 : ∀ a, a < 0 → ∀ b, b < 0 → a ≠ b → (TJxa1e45 a).2.1 ≠ (TJxa1e45 b).2.1 := by decide +kernel
theorem tyJxa1e45_ok : ∀ k, k < 0 → parseFieldDescriptor (TJxa1e45 k).2.2.1 = some (tyJxa1e45 k) := by decide +kernel
abbrev cJxa1e45_init_da8c8 : ByteArray := prog_20_method_1_code
def yJxa1e45_init_da8c8 : MethodName := ⟨RJxa1e45, "<init>", "()V"⟩
def RJxc12de : String := "java/util/AbstractList"
def TJxc12de : u_T := fun k => match k with
  | _ => ("", "", "", false)
def tyJxc12de : Nat → FieldType := fun k => match k with
  | _ => .int
abbrev wsJxc12de0 : List Cond := u_ws RJxc12de TJxc12de 0
theorem nmJxc12de : ∀ a, a < 0 → ∀ b, b < 0 → a ≠ b → (TJxc12de a).2.1 ≠ (TJxc12de b).2.1 := by decide +kernel
theorem tyJxc12de_ok : ∀ k, k < 0 → parseFieldDescriptor (TJxc12de k).2.2.1 = some (tyJxc12de k) := by decide +kernel
abbrev cJxc12de_init_da8c8 : ByteArray := prog_21_method_1_code
def yJxc12de_init_da8c8 : MethodName := ⟨RJxc12de, "<init>", "()V"⟩
def RJx4a65c : String := "java/util/ArrayList"
def TJx4a65c : u_T := fun k => match k with
  | 0 => ("java/util/AbstractList", "modCount", "I", false)
  | 1 => ("java/util/ArrayList", "elementData", "[Ljava/lang/Object;", false)
  | _ => ("java/util/ArrayList", "size", "I", false)
def tyJx4a65c : Nat → FieldType := fun k => match k with
  | 0 => .int
  | 1 => .array (.object "java/lang/Object")
  | _ => .int
abbrev wsJx4a65c0 : List Cond := u_ws RJx4a65c TJx4a65c 3
theorem nmJx4a65c : ∀ a, a < 3 → ∀ b, b < 3 → a ≠ b → (TJx4a65c a).2.1 ≠ (TJx4a65c b).2.1 := by decide +kernel
theorem tyJx4a65c_ok : ∀ k, k < 3 → parseFieldDescriptor (TJx4a65c k).2.2.1 = some (tyJx4a65c k) := by decide +kernel
abbrev cJx4a65c_init_da8c8 : ByteArray := prog_22_method_2_code
def yJx4a65c_init_da8c8 : MethodName := ⟨RJx4a65c, "<init>", "()V"⟩
abbrev cJx4a65c_grow_92f84 : ByteArray := prog_22_method_6_code
def yJx4a65c_grow_92f84 : MethodName := ⟨RJx4a65c, "grow", "(I)[Ljava/lang/Object;"⟩
abbrev cJx4a65c_grow_d5877 : ByteArray := prog_22_method_7_code
def yJx4a65c_grow_d5877 : MethodName := ⟨RJx4a65c, "grow", "()[Ljava/lang/Object;"⟩
abbrev cJx4a65c_size_8abf5 : ByteArray := prog_22_method_8_code
def yJx4a65c_size_8abf5 : MethodName := ⟨RJx4a65c, "size", "()I"⟩
abbrev cJx4a65c_elementData_915e3 : ByteArray := prog_22_method_18_code
def yJx4a65c_elementData_915e3 : MethodName := ⟨RJx4a65c, "elementData", "(I)Ljava/lang/Object;"⟩
abbrev cJx4a65c_get_915e3 : ByteArray := prog_22_method_20_code
def yJx4a65c_get_915e3 : MethodName := ⟨RJx4a65c, "get", "(I)Ljava/lang/Object;"⟩
abbrev cJx4a65c_add_72be8 : ByteArray := prog_22_method_24_code
def yJx4a65c_add_72be8 : MethodName := ⟨RJx4a65c, "add", "(Ljava/lang/Object;[Ljava/lang/Object;I)V"⟩
abbrev cJx4a65c_add_9ea2d : ByteArray := prog_22_method_25_code
def yJx4a65c_add_9ea2d : MethodName := ⟨RJx4a65c, "add", "(Ljava/lang/Object;)Z"⟩
def RJ7 : String := "java/util/Arrays"
def TJ7 : u_T := fun k => match k with
  | _ => ("", "", "", false)
def tyJ7 : Nat → FieldType := fun k => match k with
  | _ => .int
abbrev wsJ70 : List Cond := u_ws RJ7 TJ7 0
theorem nmJ7 : ∀ a, a < 0 → ∀ b, b < 0 → a ≠ b → (TJ7 a).2.1 ≠ (TJ7 b).2.1 := by decide +kernel
theorem tyJ7_ok : ∀ k, k < 0 → parseFieldDescriptor (TJ7 k).2.2.1 = some (tyJ7 k) := by decide +kernel
abbrev cJ7_fill_53178 : ByteArray := prog_23_method_103_code
def yJ7_fill_53178 : MethodName := ⟨RJ7, "fill", "([II)V"⟩
abbrev cJ7_copyOf_1904c : ByteArray := prog_23_method_119_code
def yJ7_copyOf_1904c : MethodName := ⟨RJ7, "copyOf", "([Ljava/lang/Object;I)[Ljava/lang/Object;"⟩
abbrev cJ7_copyOf_6403c : ByteArray := prog_23_method_120_code
def yJ7_copyOf_6403c : MethodName := ⟨RJ7, "copyOf", "([Ljava/lang/Object;ILjava/lang/Class;)[Ljava/lang/Object;"⟩
def RJx5ef63 : String := "java/util/Collection"
def TJx5ef63 : u_T := fun k => match k with
  | _ => ("", "", "", false)
def tyJx5ef63 : Nat → FieldType := fun k => match k with
  | _ => .int
abbrev wsJx5ef630 : List Cond := u_ws RJx5ef63 TJx5ef63 0
theorem nmJx5ef63 : ∀ a, a < 0 → ∀ b, b < 0 → a ≠ b → (TJx5ef63 a).2.1 ≠ (TJx5ef63 b).2.1 := by decide +kernel
theorem tyJx5ef63_ok : ∀ k, k < 0 → parseFieldDescriptor (TJx5ef63 k).2.2.1 = some (tyJx5ef63 k) := by decide +kernel
def RJxbd725 : String := "java/util/List"
def TJxbd725 : u_T := fun k => match k with
  | _ => ("", "", "", false)
def tyJxbd725 : Nat → FieldType := fun k => match k with
  | _ => .int
abbrev wsJxbd7250 : List Cond := u_ws RJxbd725 TJxbd725 0
theorem nmJxbd725 : ∀ a, a < 0 → ∀ b, b < 0 → a ≠ b → (TJxbd725 a).2.1 ≠ (TJxbd725 b).2.1 := by decide +kernel
theorem tyJxbd725_ok : ∀ k, k < 0 → parseFieldDescriptor (TJxbd725 k).2.2.1 = some (tyJxbd725 k) := by decide +kernel
def RJ15 : String := "java/util/Objects"
def TJ15 : u_T := fun k => match k with
  | _ => ("", "", "", false)
def tyJ15 : Nat → FieldType := fun k => match k with
  | _ => .int
abbrev wsJ150 : List Cond := u_ws RJ15 TJ15 0
theorem nmJ15 : ∀ a, a < 0 → ∀ b, b < 0 → a ≠ b → (TJ15 a).2.1 ≠ (TJ15 b).2.1 := by decide +kernel
theorem tyJ15_ok : ∀ k, k < 0 → parseFieldDescriptor (TJ15 k).2.2.1 = some (tyJ15 k) := by decide +kernel
abbrev cJ15_checkIndex_7cf53 : ByteArray := prog_26_method_17_code
def yJ15_checkIndex_7cf53 : MethodName := ⟨RJ15, "checkIndex", "(II)I"⟩
def RJxf0a74 : String := "java/util/RandomAccess"
def TJxf0a74 : u_T := fun k => match k with
  | _ => ("", "", "", false)
def tyJxf0a74 : Nat → FieldType := fun k => match k with
  | _ => .int
abbrev wsJxf0a740 : List Cond := u_ws RJxf0a74 TJxf0a74 0
theorem nmJxf0a74 : ∀ a, a < 0 → ∀ b, b < 0 → a ≠ b → (TJxf0a74 a).2.1 ≠ (TJxf0a74 b).2.1 := by decide +kernel
theorem tyJxf0a74_ok : ∀ k, k < 0 → parseFieldDescriptor (TJxf0a74 k).2.2.1 = some (tyJxf0a74 k) := by decide +kernel
def RJxa66e6 : String := "java/util/SequencedCollection"
def TJxa66e6 : u_T := fun k => match k with
  | _ => ("", "", "", false)
def tyJxa66e6 : Nat → FieldType := fun k => match k with
  | _ => .int
abbrev wsJxa66e60 : List Cond := u_ws RJxa66e6 TJxa66e6 0
theorem nmJxa66e6 : ∀ a, a < 0 → ∀ b, b < 0 → a ≠ b → (TJxa66e6 a).2.1 ≠ (TJxa66e6 b).2.1 := by decide +kernel
theorem tyJxa66e6_ok : ∀ k, k < 0 → parseFieldDescriptor (TJxa66e6 k).2.2.1 = some (tyJxa66e6 k) := by decide +kernel
def RJ8 : String := "jdk/internal/util/ArraysSupport"
def TJ8 : u_T := fun k => match k with
  | _ => ("", "", "", false)
def tyJ8 : Nat → FieldType := fun k => match k with
  | _ => .int
abbrev wsJ80 : List Cond := u_ws RJ8 TJ8 0
theorem nmJ8 : ∀ a, a < 0 → ∀ b, b < 0 → a ≠ b → (TJ8 a).2.1 ≠ (TJ8 b).2.1 := by decide +kernel
theorem tyJ8_ok : ∀ k, k < 0 → parseFieldDescriptor (TJ8 k).2.2.1 = some (tyJ8 k) := by decide +kernel
abbrev cJ8_newLength_cabcc : ByteArray := prog_29_method_27_code
def yJ8_newLength_cabcc : MethodName := ⟨RJ8, "newLength", "(III)I"⟩
abbrev cJ8_hugeLength_7cf53 : ByteArray := prog_29_method_28_code
def yJ8_hugeLength_7cf53 : MethodName := ⟨RJ8, "hugeLength", "(II)I"⟩
def RJ3 : String := "jdk/internal/util/Preconditions"
def TJ3 : u_T := fun k => match k with
  | _ => ("", "", "", false)
def tyJ3 : Nat → FieldType := fun k => match k with
  | _ => .int
abbrev wsJ30 : List Cond := u_ws RJ3 TJ3 0
theorem nmJ3 : ∀ a, a < 0 → ∀ b, b < 0 → a ≠ b → (TJ3 a).2.1 ≠ (TJ3 b).2.1 := by decide +kernel
theorem tyJ3_ok : ∀ k, k < 0 → parseFieldDescriptor (TJ3 k).2.2.1 = some (tyJ3 k) := by decide +kernel
abbrev cJ3_checkIndex_8e157 : ByteArray := prog_30_method_11_code
def yJ3_checkIndex_8e157 : MethodName := ⟨RJ3, "checkIndex", "(IILjava/util/function/BiFunction;)I"⟩
def RL : String := "SignTilesLaw"
abbrev cL_cell : ByteArray := method_2_code
def yL_cell : MethodName := ⟨RL, "cell", "([II)I"⟩
abbrev cL_some : ByteArray := method_3_code
def yL_some : MethodName := ⟨RL, "some", "(II)I"⟩
abbrev cL_call : ByteArray := method_4_code
def yL_call : MethodName := ⟨RL, "call", "(LSignTiles;IIII)I"⟩
abbrev cL_does : ByteArray := method_5_code
def yL_does : MethodName := ⟨RL, "does", "(LSignTiles;IIII)I"⟩
abbrev cL_all : ByteArray := method_6_code
def yL_all : MethodName := ⟨RL, "all", "(LSignTiles;)J"⟩
abbrev cL_both : ByteArray := method_7_code
def yL_both : MethodName := ⟨RL, "both", "(LSignTiles;LSignTiles;IIII)I"⟩
abbrev cL_kind : ByteArray := method_8_code
def yL_kind : MethodName := ⟨RL, "kind", "(LSignTiles;I)I"⟩
abbrev cL_turn : ByteArray := method_9_code
def yL_turn : MethodName := ⟨RL, "turn", "(LSignTiles;I)I"⟩
abbrev cL_by : ByteArray := method_10_code
def yL_by : MethodName := ⟨RL, "by", "(LSignTiles;I)I"⟩
abbrev cL_edits : ByteArray := method_11_code
def yL_edits : MethodName := ⟨RL, "edits", "(LSignTiles;LSignTiles;I)Z"⟩
abbrev cL_judges : ByteArray := method_12_code
def yL_judges : MethodName := ⟨RL, "judges", "(LSignTiles;LSignTiles;I)Z"⟩
abbrev cL_reverts : ByteArray := method_13_code
def yL_reverts : MethodName := ⟨RL, "reverts", "(LSignTiles;LSignTiles;I)Z"⟩
abbrev cL_draws : ByteArray := method_14_code
def yL_draws : MethodName := ⟨RL, "draws", "(LSignTiles;LSignTiles;I)Z"⟩
abbrev cL_refreshes : ByteArray := method_15_code
def yL_refreshes : MethodName := ⟨RL, "refreshes", "(LSignTiles;LSignTiles;)Z"⟩
abbrev cL_sees : ByteArray := method_16_code
def yL_sees : MethodName := ⟨RL, "sees", "(LSignTiles;LSignTiles;I)Z"⟩
abbrev cL_refused : ByteArray := method_17_code
def yL_refused : MethodName := ⟨RL, "refused", "(LSignTiles;)Z"⟩
abbrev cL_law : ByteArray := code
def yL_law : MethodName := ⟨RL, "law", "([I)Z"⟩
abbrev vwCl : List vw_C := [(RJx4a65c, TJx4a65c, 3), (RX0, TX0, 3), (RX1, TX1, 7), (RX2, TX2, 4), (RX3, TX3, 8), (RX4, TX4, 6)]

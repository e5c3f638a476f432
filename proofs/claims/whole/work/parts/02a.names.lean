/-! ===== BEGIN words of one list among another's, by their places ===== -/
theorem goodIn_r {big : List Cond} (ws : List Cond) (ps : List Nat) (hp : ws = ps.filterMap (fun i => big[i]?)) (h : ws.all goodWord = true) : GoodIn big ws := by
  intro w hw
  have h1 := List.all_eq_true.mp h w hw
  rw [hp] at hw
  obtain ⟨i, -, hi⟩ := List.mem_filterMap.mp hw
  have hm : w ∈ big := by first | exact List.mem_of_getElem? hi | exact List.getElem?_mem hi
  exact ⟨hm, good_of_word h1⟩
theorem goodIn_app {big a b : List Cond} (ha : GoodIn big a) (hb : GoodIn big b) : GoodIn big (a ++ b) := fun w h => (List.mem_append.mp h).elim (ha w) (hb w)
theorem goodIn_ca {big a b : List Cond} {c : Cond} (ha : GoodIn big (c :: a)) (hb : GoodIn big b) : GoodIn big (c :: (a ++ b)) := fun w h => (List.mem_cons.mp h).elim (fun e => ha w (List.mem_cons.mpr (Or.inl e))) (fun h => (List.mem_append.mp h).elim (fun h => ha w (List.mem_cons.mpr (Or.inr h))) (hb w))
theorem goodIn_sub {big ws : List Cond} (hm : ∀ w ∈ ws, w ∈ big) (h : ws.all goodWord = true) : GoodIn big ws := fun w hw => ⟨hm w hw, good_of_word (List.all_eq_true.mp h w hw)⟩
/-! ===== END ===== -/

/-! ===== BEGIN printed: names, fields, word lists, decode rows ===== -/
def RX0 : String := "LaidPieces$History"
def TX0 : u_T := fun k => match k with
  | 0 => ("LaidPieces$History", "states", "[LLaidPieces$Layout;", true)
  | 1 => ("LaidPieces$History", "first", "I", false)
  | _ => ("LaidPieces$History", "size", "I", false)
def tyX0 : Nat → FieldType := fun k => match k with
  | 0 => .array (.object "LaidPieces$Layout")
  | 1 => .int
  | _ => .int
abbrev wsX00 : List Cond := u_ws RX0 TX0 3
theorem nmX0 : ∀ a, a < 3 → ∀ b, b < 3 → a ≠ b → (TX0 a).2.1 ≠ (TX0 b).2.1 := by decide +kernel
theorem tyX0_ok : ∀ k, k < 3 → parseFieldDescriptor (TX0 k).2.2.1 = some (tyX0 k) := by decide +kernel
abbrev cX0_init : ByteArray := prog_2_method_1_code
def yX0_init : MethodName := ⟨RX0, "<init>", "()V"⟩
abbrev cX0_size : ByteArray := prog_2_method_2_code
def yX0_size : MethodName := ⟨RX0, "size", "()I"⟩
abbrev cX0_record : ByteArray := prog_2_method_3_code
def yX0_record : MethodName := ⟨RX0, "record", "(LLaidPieces$Layout;)V"⟩
abbrev cX0_restore : ByteArray := prog_2_method_4_code
def yX0_restore : MethodName := ⟨RX0, "restore", "(LLaidPieces$Layout;)V"⟩
abbrev cX0_stateAt : ByteArray := prog_2_method_5_code
def yX0_stateAt : MethodName := ⟨RX0, "stateAt", "(I)LLaidPieces$Layout;"⟩
def RX1 : String := "LaidPieces$Layout"
def TX1 : u_T := fun k => match k with
  | 0 => ("LaidPieces$Layout", "properties", "[I", true)
  | 1 => ("LaidPieces$Layout", "order", "[I", true)
  | 2 => ("LaidPieces$Layout", "columns", "I", false)
  | 3 => ("LaidPieces$Layout", "rows", "I", false)
  | 4 => ("LaidPieces$Layout", "pieces", "I", false)
  | _ => ("LaidPieces$Layout", "cost", "I", false)
def tyX1 : Nat → FieldType := fun k => match k with
  | 0 => .array .int
  | 1 => .array .int
  | 2 => .int
  | 3 => .int
  | 4 => .int
  | _ => .int
abbrev wsX10 : List Cond := u_ws RX1 TX1 6
theorem nmX1 : ∀ a, a < 6 → ∀ b, b < 6 → a ≠ b → (TX1 a).2.1 ≠ (TX1 b).2.1 := by decide +kernel
theorem tyX1_ok : ∀ k, k < 6 → parseFieldDescriptor (TX1 k).2.2.1 = some (tyX1 k) := by decide +kernel
abbrev cX1_init : ByteArray := prog_3_method_1_code
def yX1_init : MethodName := ⟨RX1, "<init>", "()V"⟩
abbrev cX1_take : ByteArray := prog_3_method_2_code
def yX1_take : MethodName := ⟨RX1, "take", "(LLaidPieces$Layout;)V"⟩
abbrev cX1_columns : ByteArray := prog_3_method_3_code
def yX1_columns : MethodName := ⟨RX1, "columns", "()I"⟩
abbrev cX1_rows : ByteArray := prog_3_method_4_code
def yX1_rows : MethodName := ⟨RX1, "rows", "()I"⟩
abbrev cX1_pieces : ByteArray := prog_3_method_5_code
def yX1_pieces : MethodName := ⟨RX1, "pieces", "()I"⟩
abbrev cX1_cost : ByteArray := prog_3_method_6_code
def yX1_cost : MethodName := ⟨RX1, "cost", "()I"⟩
abbrev cX1_isFull : ByteArray := prog_3_method_7_code
def yX1_isFull : MethodName := ⟨RX1, "isFull", "()Z"⟩
abbrev cX1_has : ByteArray := prog_3_method_8_code
def yX1_has : MethodName := ⟨RX1, "has", "(I)Z"⟩
abbrev cX1_hasRow : ByteArray := prog_3_method_9_code
def yX1_hasRow : MethodName := ⟨RX1, "hasRow", "(I)Z"⟩
abbrev cX1_hasCell : ByteArray := prog_3_method_10_code
def yX1_hasCell : MethodName := ⟨RX1, "hasCell", "(II)Z"⟩
abbrev cX1_get : ByteArray := prog_3_method_11_code
def yX1_get : MethodName := ⟨RX1, "get", "(II)I"⟩
abbrev cX1_set : ByteArray := prog_3_method_12_code
def yX1_set : MethodName := ⟨RX1, "set", "(III)V"⟩
abbrev cX1_pieceIn : ByteArray := prog_3_method_13_code
def yX1_pieceIn : MethodName := ⟨RX1, "pieceIn", "(I)I"⟩
abbrev cX1_layerOf : ByteArray := prog_3_method_14_code
def yX1_layerOf : MethodName := ⟨RX1, "layerOf", "(I)I"⟩
abbrev cX1_resize : ByteArray := prog_3_method_15_code
def yX1_resize : MethodName := ⟨RX1, "resize", "(II)V"⟩
abbrev cX1_addBlank : ByteArray := prog_3_method_16_code
def yX1_addBlank : MethodName := ⟨RX1, "addBlank", "()I"⟩
abbrev cX1_remove : ByteArray := prog_3_method_17_code
def yX1_remove : MethodName := ⟨RX1, "remove", "(I)V"⟩
abbrev cX1_putIntoLayer : ByteArray := prog_3_method_18_code
def yX1_putIntoLayer : MethodName := ⟨RX1, "putIntoLayer", "(II)I"⟩
abbrev cX1_canMove : ByteArray := prog_3_method_19_code
def yX1_canMove : MethodName := ⟨RX1, "canMove", "(III)Z"⟩
abbrev cX1_move : ByteArray := prog_3_method_20_code
def yX1_move : MethodName := ⟨RX1, "move", "(III)I"⟩
abbrev cX1_span : ByteArray := prog_3_method_21_code
def yX1_span : MethodName := ⟨RX1, "span", "(II)I"⟩
abbrev cX1_coverRow : ByteArray := prog_3_method_22_code
def yX1_coverRow : MethodName := ⟨RX1, "coverRow", "(II)I"⟩
abbrev cX1_coveringPiece : ByteArray := prog_3_method_23_code
def yX1_coveringPiece : MethodName := ⟨RX1, "coveringPiece", "(III)I"⟩
abbrev cX1_area : ByteArray := prog_3_method_24_code
def yX1_area : MethodName := ⟨RX1, "area", "(I)I"⟩
abbrev cX1_cellsOutside : ByteArray := prog_3_method_25_code
def yX1_cellsOutside : MethodName := ⟨RX1, "cellsOutside", "(I)I"⟩
def RX2 : String := "LaidPieces$Parts"
def TX2 : u_T := fun k => match k with
  | 0 => ("LaidPieces$Parts", "sight", "LLaidPieces$Sight;", true)
  | 1 => ("LaidPieces$Parts", "rest", "[I", true)
  | 2 => ("LaidPieces$Parts", "part", "[I", true)
  | 3 => ("LaidPieces$Parts", "number", "I", false)
  | _ => ("LaidPieces$Parts", "largest", "I", false)
def tyX2 : Nat → FieldType := fun k => match k with
  | 0 => .object "LaidPieces$Sight"
  | 1 => .array .int
  | 2 => .array .int
  | 3 => .int
  | _ => .int
abbrev wsX20 : List Cond := u_ws RX2 TX2 5
theorem nmX2 : ∀ a, a < 5 → ∀ b, b < 5 → a ≠ b → (TX2 a).2.1 ≠ (TX2 b).2.1 := by decide +kernel
theorem tyX2_ok : ∀ k, k < 5 → parseFieldDescriptor (TX2 k).2.2.1 = some (tyX2 k) := by decide +kernel
abbrev cX2_init : ByteArray := prog_4_method_1_code
def yX2_init : MethodName := ⟨RX2, "<init>", "(LLaidPieces$Sight;)V"⟩
abbrev cX2_number : ByteArray := prog_4_method_2_code
def yX2_number : MethodName := ⟨RX2, "number", "()I"⟩
abbrev cX2_largest : ByteArray := prog_4_method_3_code
def yX2_largest : MethodName := ⟨RX2, "largest", "()I"⟩
abbrev cX2_split : ByteArray := prog_4_method_4_code
def yX2_split : MethodName := ⟨RX2, "split", "(I)V"⟩
abbrev cX2_takePart : ByteArray := prog_4_method_5_code
def yX2_takePart : MethodName := ⟨RX2, "takePart", "(I)I"⟩
abbrev cX2_grow : ByteArray := prog_4_method_6_code
def yX2_grow : MethodName := ⟨RX2, "grow", "()Z"⟩
def RX3 : String := "LaidPieces$Plans"
def TX3 : u_T := fun k => match k with
  | 0 => ("LaidPieces$Plans", "now", "LLaidPieces$Layout;", true)
  | 1 => ("LaidPieces$Plans", "trial", "LLaidPieces$Layout;", true)
  | 2 => ("LaidPieces$Plans", "sight", "LLaidPieces$Sight;", true)
  | 3 => ("LaidPieces$Plans", "dx", "I", false)
  | _ => ("LaidPieces$Plans", "dy", "I", false)
def tyX3 : Nat → FieldType := fun k => match k with
  | 0 => .object "LaidPieces$Layout"
  | 1 => .object "LaidPieces$Layout"
  | 2 => .object "LaidPieces$Sight"
  | 3 => .int
  | _ => .int
abbrev wsX30 : List Cond := u_ws RX3 TX3 5
theorem nmX3 : ∀ a, a < 5 → ∀ b, b < 5 → a ≠ b → (TX3 a).2.1 ≠ (TX3 b).2.1 := by decide +kernel
theorem tyX3_ok : ∀ k, k < 5 → parseFieldDescriptor (TX3 k).2.2.1 = some (tyX3 k) := by decide +kernel
abbrev cX3_init : ByteArray := prog_5_method_1_code
def yX3_init : MethodName := ⟨RX3, "<init>", "(LLaidPieces$Layout;)V"⟩
abbrev cX3_dx : ByteArray := prog_5_method_2_code
def yX3_dx : MethodName := ⟨RX3, "dx", "()I"⟩
abbrev cX3_dy : ByteArray := prog_5_method_3_code
def yX3_dy : MethodName := ⟨RX3, "dy", "()I"⟩
abbrev cX3_cost : ByteArray := prog_5_method_4_code
def yX3_cost : MethodName := ⟨RX3, "cost", "()I"⟩
abbrev cX3_findShift : ByteArray := prog_5_method_5_code
def yX3_findShift : MethodName := ⟨RX3, "findShift", "(III)Z"⟩
abbrev cX3_contentPiecesNeeded : ByteArray := prog_5_method_6_code
def yX3_contentPiecesNeeded : MethodName := ⟨RX3, "contentPiecesNeeded", "(I)I"⟩
abbrev cX3_reaches : ByteArray := prog_5_method_7_code
def yX3_reaches : MethodName := ⟨RX3, "reaches", "(IIII)Z"⟩
abbrev cX3_lowestLayer : ByteArray := prog_5_method_8_code
def yX3_lowestLayer : MethodName := ⟨RX3, "lowestLayer", "(I)I"⟩
abbrev cX3_worstPiece : ByteArray := prog_5_method_9_code
def yX3_worstPiece : MethodName := ⟨RX3, "worstPiece", "()I"⟩
def RX4 : String := "LaidPieces$Reader"
def TX4 : u_T := fun k => match k with
  | 0 => ("LaidPieces$Reader", "text", "LLaidPieces$Text;", true)
  | 1 => ("LaidPieces$Reader", "kind", "I", false)
  | 2 => ("LaidPieces$Reader", "value", "I", false)
  | 3 => ("LaidPieces$Reader", "start", "I", false)
  | _ => ("LaidPieces$Reader", "end", "I", false)
def tyX4 : Nat → FieldType := fun k => match k with
  | 0 => .object "LaidPieces$Text"
  | 1 => .int
  | 2 => .int
  | 3 => .int
  | _ => .int
abbrev wsX40 : List Cond := u_ws RX4 TX4 5
theorem nmX4 : ∀ a, a < 5 → ∀ b, b < 5 → a ≠ b → (TX4 a).2.1 ≠ (TX4 b).2.1 := by decide +kernel
theorem tyX4_ok : ∀ k, k < 5 → parseFieldDescriptor (TX4 k).2.2.1 = some (tyX4 k) := by decide +kernel
abbrev cX4_init : ByteArray := prog_6_method_1_code
def yX4_init : MethodName := ⟨RX4, "<init>", "(LLaidPieces$Text;)V"⟩
abbrev cX4_read : ByteArray := prog_6_method_2_code
def yX4_read : MethodName := ⟨RX4, "read", "(LLaidPieces$Layout;)I"⟩
abbrev cX4_readPage : ByteArray := prog_6_method_3_code
def yX4_readPage : MethodName := ⟨RX4, "readPage", "(LLaidPieces$Layout;)Z"⟩
abbrev cX4_readPiece : ByteArray := prog_6_method_4_code
def yX4_readPiece : MethodName := ⟨RX4, "readPiece", "(LLaidPieces$Layout;)Z"⟩
abbrev cX4_isNextNumber : ByteArray := prog_6_method_5_code
def yX4_isNextNumber : MethodName := ⟨RX4, "isNextNumber", "(II)Z"⟩
abbrev cX4_isWord : ByteArray := prog_6_method_6_code
def yX4_isWord : MethodName := ⟨RX4, "isWord", "(Ljava/lang/String;)Z"⟩
abbrev cX4_nextToken : ByteArray := prog_6_method_7_code
def yX4_nextToken : MethodName := ⟨RX4, "nextToken", "()V"⟩
abbrev cX4_takeWord : ByteArray := prog_6_method_8_code
def yX4_takeWord : MethodName := ⟨RX4, "takeWord", "()V"⟩
abbrev cX4_takeNumber : ByteArray := prog_6_method_9_code
def yX4_takeNumber : MethodName := ⟨RX4, "takeNumber", "()V"⟩
def RX5 : String := "LaidPieces$Sight"
def TX5 : u_T := fun k => match k with
  | 0 => ("LaidPieces$Sight", "layout", "LLaidPieces$Layout;", true)
  | 1 => ("LaidPieces$Sight", "seenRows", "[I", true)
  | 2 => ("LaidPieces$Sight", "covered", "[I", true)
  | _ => ("LaidPieces$Sight", "cells", "[I", true)
def tyX5 : Nat → FieldType := fun k => match k with
  | 0 => .object "LaidPieces$Layout"
  | 1 => .array .int
  | 2 => .array .int
  | _ => .array .int
abbrev wsX50 : List Cond := u_ws RX5 TX5 4
theorem nmX5 : ∀ a, a < 4 → ∀ b, b < 4 → a ≠ b → (TX5 a).2.1 ≠ (TX5 b).2.1 := by decide +kernel
theorem tyX5_ok : ∀ k, k < 4 → parseFieldDescriptor (TX5 k).2.2.1 = some (tyX5 k) := by decide +kernel
abbrev cX5_init : ByteArray := prog_7_method_1_code
def yX5_init : MethodName := ⟨RX5, "<init>", "(LLaidPieces$Layout;)V"⟩
abbrev cX5_look : ByteArray := prog_7_method_2_code
def yX5_look : MethodName := ⟨RX5, "look", "()V"⟩
abbrev cX5_lookAt : ByteArray := prog_7_method_3_code
def yX5_lookAt : MethodName := ⟨RX5, "lookAt", "(I)V"⟩
abbrev cX5_rowOf : ByteArray := prog_7_method_4_code
def yX5_rowOf : MethodName := ⟨RX5, "rowOf", "(II)I"⟩
abbrev cX5_cells : ByteArray := prog_7_method_5_code
def yX5_cells : MethodName := ⟨RX5, "cells", "(I)I"⟩
abbrev cX5_isContent : ByteArray := prog_7_method_6_code
def yX5_isContent : MethodName := ⟨RX5, "isContent", "(I)Z"⟩
abbrev cX5_contentPieces : ByteArray := prog_7_method_7_code
def yX5_contentPieces : MethodName := ⟨RX5, "contentPieces", "()I"⟩
abbrev cX5_unseenPieces : ByteArray := prog_7_method_8_code
def yX5_unseenPieces : MethodName := ⟨RX5, "unseenPieces", "()I"⟩
abbrev cX5_pageCells : ByteArray := prog_7_method_9_code
def yX5_pageCells : MethodName := ⟨RX5, "pageCells", "()I"⟩
abbrev cX5_wholeFrames : ByteArray := prog_7_method_10_code
def yX5_wholeFrames : MethodName := ⟨RX5, "wholeFrames", "()I"⟩
abbrev cX5_cutStrips : ByteArray := prog_7_method_11_code
def yX5_cutStrips : MethodName := ⟨RX5, "cutStrips", "(I)I"⟩
abbrev cX5_isWholly : ByteArray := prog_7_method_12_code
def yX5_isWholly : MethodName := ⟨RX5, "isWholly", "(IIIII)Z"⟩
abbrev cX5_edgeBetween : ByteArray := prog_7_method_13_code
def yX5_edgeBetween : MethodName := ⟨RX5, "edgeBetween", "(II)I"⟩
abbrev cX5_borderEdge : ByteArray := prog_7_method_14_code
def yX5_borderEdge : MethodName := ⟨RX5, "borderEdge", "(I)I"⟩
abbrev cX5_hiddenCells : ByteArray := prog_7_method_15_code
def yX5_hiddenCells : MethodName := ⟨RX5, "hiddenCells", "(II)I"⟩
abbrev cX5_rankByShare : ByteArray := prog_7_method_16_code
def yX5_rankByShare : MethodName := ⟨RX5, "rankByShare", "(I)I"⟩
abbrev cX5_shareOf : ByteArray := prog_7_method_17_code
def yX5_shareOf : MethodName := ⟨RX5, "shareOf", "(I)I"⟩
def RX6 : String := "LaidPieces$Text"
def TX6 : u_T := fun k => match k with
  | 0 => ("LaidPieces$Text", "characters", "[I", true)
  | _ => ("LaidPieces$Text", "length", "I", false)
def tyX6 : Nat → FieldType := fun k => match k with
  | 0 => .array .int
  | _ => .int
abbrev wsX60 : List Cond := u_ws RX6 TX6 2
theorem nmX6 : ∀ a, a < 2 → ∀ b, b < 2 → a ≠ b → (TX6 a).2.1 ≠ (TX6 b).2.1 := by decide +kernel
theorem tyX6_ok : ∀ k, k < 2 → parseFieldDescriptor (TX6 k).2.2.1 = some (tyX6 k) := by decide +kernel
abbrev cX6_init : ByteArray := prog_8_method_1_code
def yX6_init : MethodName := ⟨RX6, "<init>", "()V"⟩
abbrev cX6_length : ByteArray := prog_8_method_2_code
def yX6_length : MethodName := ⟨RX6, "length", "()I"⟩
abbrev cX6_isFull : ByteArray := prog_8_method_3_code
def yX6_isFull : MethodName := ⟨RX6, "isFull", "()Z"⟩
abbrev cX6_add : ByteArray := prog_8_method_4_code
def yX6_add : MethodName := ⟨RX6, "add", "(I)V"⟩
abbrev cX6_clear : ByteArray := prog_8_method_5_code
def yX6_clear : MethodName := ⟨RX6, "clear", "()V"⟩
abbrev cX6_characterAt : ByteArray := prog_8_method_6_code
def yX6_characterAt : MethodName := ⟨RX6, "characterAt", "(I)I"⟩
def RX7 : String := "LaidPieces"
def TX7 : u_T := fun k => match k with
  | 0 => ("LaidPieces", "now", "LLaidPieces$Layout;", true)
  | 1 => ("LaidPieces", "draft", "LLaidPieces$Layout;", true)
  | 2 => ("LaidPieces", "sight", "LLaidPieces$Sight;", true)
  | 3 => ("LaidPieces", "parts", "LLaidPieces$Parts;", true)
  | 4 => ("LaidPieces", "plans", "LLaidPieces$Plans;", true)
  | 5 => ("LaidPieces", "history", "LLaidPieces$History;", true)
  | 6 => ("LaidPieces", "text", "LLaidPieces$Text;", true)
  | _ => ("LaidPieces", "reader", "LLaidPieces$Reader;", true)
def tyX7 : Nat → FieldType := fun k => match k with
  | 0 => .object "LaidPieces$Layout"
  | 1 => .object "LaidPieces$Layout"
  | 2 => .object "LaidPieces$Sight"
  | 3 => .object "LaidPieces$Parts"
  | 4 => .object "LaidPieces$Plans"
  | 5 => .object "LaidPieces$History"
  | 6 => .object "LaidPieces$Text"
  | _ => .object "LaidPieces$Reader"
abbrev wsX70 : List Cond := u_ws RX7 TX7 8
theorem nmX7 : ∀ a, a < 8 → ∀ b, b < 8 → a ≠ b → (TX7 a).2.1 ≠ (TX7 b).2.1 := by decide +kernel
theorem tyX7_ok : ∀ k, k < 8 → parseFieldDescriptor (TX7 k).2.2.1 = some (tyX7 k) := by decide +kernel
abbrev cX7_init : ByteArray := prog_1_method_1_code
def yX7_init : MethodName := ⟨RX7, "<init>", "()V"⟩
abbrev cX7_setPage : ByteArray := prog_1_method_2_code
def yX7_setPage : MethodName := ⟨RX7, "setPage", "(II)I"⟩
abbrev cX7_addPiece : ByteArray := prog_1_method_3_code
def yX7_addPiece : MethodName := ⟨RX7, "addPiece", "(IIIII)I"⟩
abbrev cX7_removePiece : ByteArray := prog_1_method_4_code
def yX7_removePiece : MethodName := ⟨RX7, "removePiece", "(I)I"⟩
abbrev cX7_setShare : ByteArray := prog_1_method_5_code
def yX7_setShare : MethodName := ⟨RX7, "setShare", "(II)I"⟩
abbrev cX7_setFrame : ByteArray := prog_1_method_6_code
def yX7_setFrame : MethodName := ⟨RX7, "setFrame", "(II)I"⟩
abbrev cX7_shift : ByteArray := prog_1_method_7_code
def yX7_shift : MethodName := ⟨RX7, "shift", "(III)I"⟩
abbrev cX7_setLayer : ByteArray := prog_1_method_8_code
def yX7_setLayer : MethodName := ⟨RX7, "setLayer", "(II)I"⟩
abbrev cX7_arrange : ByteArray := prog_1_method_9_code
def yX7_arrange : MethodName := ⟨RX7, "arrange", "()I"⟩
abbrev cX7_append : ByteArray := prog_1_method_10_code
def yX7_append : MethodName := ⟨RX7, "append", "(I)I"⟩
abbrev cX7_clearText : ByteArray := prog_1_method_11_code
def yX7_clearText : MethodName := ⟨RX7, "clearText", "()I"⟩
abbrev cX7_load : ByteArray := prog_1_method_12_code
def yX7_load : MethodName := ⟨RX7, "load", "()I"⟩
abbrev cX7_undo : ByteArray := prog_1_method_13_code
def yX7_undo : MethodName := ⟨RX7, "undo", "()I"⟩
abbrev cX7_count : ByteArray := prog_1_method_14_code
def yX7_count : MethodName := ⟨RX7, "count", "(I)I"⟩
abbrev cX7_piece : ByteArray := prog_1_method_15_code
def yX7_piece : MethodName := ⟨RX7, "piece", "(II)I"⟩
abbrev cX7_seen : ByteArray := prog_1_method_16_code
def yX7_seen : MethodName := ⟨RX7, "seen", "(II)I"⟩
abbrev cX7_inLayer : ByteArray := prog_1_method_17_code
def yX7_inLayer : MethodName := ⟨RX7, "inLayer", "(I)I"⟩
abbrev cX7_covering : ByteArray := prog_1_method_18_code
def yX7_covering : MethodName := ⟨RX7, "covering", "(III)I"⟩
abbrev cX7_edge : ByteArray := prog_1_method_19_code
def yX7_edge : MethodName := ⟨RX7, "edge", "(II)I"⟩
abbrev cX7_hides : ByteArray := prog_1_method_20_code
def yX7_hides : MethodName := ⟨RX7, "hides", "(II)I"⟩
abbrev cX7_byShare : ByteArray := prog_1_method_21_code
def yX7_byShare : MethodName := ⟨RX7, "byShare", "(I)I"⟩
abbrev cX7_leastShift : ByteArray := prog_1_method_22_code
def yX7_leastShift : MethodName := ⟨RX7, "leastShift", "(III)I"⟩
abbrev cX7_layerFor : ByteArray := prog_1_method_23_code
def yX7_layerFor : MethodName := ⟨RX7, "layerFor", "(I)I"⟩
abbrev cX7_worst : ByteArray := prog_1_method_24_code
def yX7_worst : MethodName := ⟨RX7, "worst", "()I"⟩
abbrev cX7_setProperty : ByteArray := prog_1_method_25_code
def yX7_setProperty : MethodName := ⟨RX7, "setProperty", "(III)I"⟩
abbrev cX7_makeCheapestShift : ByteArray := prog_1_method_26_code
def yX7_makeCheapestShift : MethodName := ⟨RX7, "makeCheapestShift", "()Z"⟩
abbrev cX7_isWithin : ByteArray := prog_1_method_27_code
def yX7_isWithin : MethodName := ⟨RX7, "isWithin", "(III)Z"⟩
abbrev cX7_fits : ByteArray := prog_1_method_28_code
def yX7_fits : MethodName := ⟨RX7, "fits", "(II)Z"⟩
abbrev cX7_at : ByteArray := prog_1_method_29_code
def yX7_at : MethodName := ⟨RX7, "at", "([II)I"⟩
abbrev cX7_put : ByteArray := prog_1_method_30_code
def yX7_put : MethodName := ⟨RX7, "put", "([III)V"⟩
def RX8 : String := "LaidPiecesModel"
def TX8 : u_T := fun k => match k with
  | 0 => ("LaidPiecesModel", "m", "[I", true)
  | 1 => ("LaidPiecesModel", "states", "[I", true)
  | 2 => ("LaidPiecesModel", "stateCount", "I", false)
  | 3 => ("LaidPiecesModel", "text", "[I", true)
  | 4 => ("LaidPiecesModel", "textLength", "I", false)
  | 5 => ("LaidPiecesModel", "shown", "[I", true)
  | 6 => ("LaidPiecesModel", "seenOf", "[I", true)
  | 7 => ("LaidPiecesModel", "leastX", "I", false)
  | 8 => ("LaidPiecesModel", "leastY", "I", false)
  | 9 => ("LaidPiecesModel", "at", "I", false)
  | 10 => ("LaidPiecesModel", "kind", "I", false)
  | 11 => ("LaidPiecesModel", "begin", "I", false)
  | 12 => ("LaidPiecesModel", "value", "I", false)
  | 13 => ("LaidPiecesModel", "numbers", "[I", true)
  | 14 => ("LaidPiecesModel", "aside", "[I", true)
  | 15 => ("LaidPiecesModel", "items", "I", false)
  | 16 => ("LaidPiecesModel", "isGone", "[Z", true)
  | 17 => ("LaidPiecesModel", "open", "[I", true)
  | _ => ("LaidPiecesModel", "openCount", "I", false)
def tyX8 : Nat → FieldType := fun k => match k with
  | 0 => .array .int
  | 1 => .array .int
  | 2 => .int
  | 3 => .array .int
  | 4 => .int
  | 5 => .array .int
  | 6 => .array .int
  | 7 => .int
  | 8 => .int
  | 9 => .int
  | 10 => .int
  | 11 => .int
  | 12 => .int
  | 13 => .array .int
  | 14 => .array .int
  | 15 => .int
  | 16 => .array .boolean
  | 17 => .array .int
  | _ => .int
abbrev wsX80 : List Cond := u_ws RX8 TX8 19
theorem nmX8 : ∀ a, a < 19 → ∀ b, b < 19 → a ≠ b → (TX8 a).2.1 ≠ (TX8 b).2.1 := by decide +kernel
theorem tyX8_ok : ∀ k, k < 19 → parseFieldDescriptor (TX8 k).2.2.1 = some (tyX8 k) := by decide +kernel
abbrev cX8_init : ByteArray := prog_10_method_1_code
def yX8_init : MethodName := ⟨RX8, "<init>", "()V"⟩
abbrev cX8_in : ByteArray := prog_10_method_2_code
def yX8_in : MethodName := ⟨RX8, "in", "(III)Z"⟩
abbrev cX8_size : ByteArray := prog_10_method_3_code
def yX8_size : MethodName := ⟨RX8, "size", "(I)I"⟩
abbrev cX8_record : ByteArray := prog_10_method_4_code
def yX8_record : MethodName := ⟨RX8, "record", "([I)V"⟩
abbrev cX8_isPiece : ByteArray := prog_10_method_5_code
def yX8_isPiece : MethodName := ⟨RX8, "isPiece", "(I)Z"⟩
abbrev cX8_of : ByteArray := prog_10_method_6_code
def yX8_of : MethodName := ⟨RX8, "of", "(II)I"⟩
abbrev cX8_area : ByteArray := prog_10_method_7_code
def yX8_area : MethodName := ⟨RX8, "area", "(I)I"⟩
abbrev cX8_layerOf : ByteArray := prog_10_method_8_code
def yX8_layerOf : MethodName := ⟨RX8, "layerOf", "(I)I"⟩
abbrev cX8_covers : ByteArray := prog_10_method_9_code
def yX8_covers : MethodName := ⟨RX8, "covers", "(III)Z"⟩
abbrev cX8_paintPiece : ByteArray := prog_10_method_10_code
def yX8_paintPiece : MethodName := ⟨RX8, "paintPiece", "(I)V"⟩
abbrev cX8_paintWithout : ByteArray := prog_10_method_11_code
def yX8_paintWithout : MethodName := ⟨RX8, "paintWithout", "(I)V"⟩
abbrev cX8_paint : ByteArray := prog_10_method_12_code
def yX8_paint : MethodName := ⟨RX8, "paint", "()V"⟩
abbrev cX8_isContent : ByteArray := prog_10_method_13_code
def yX8_isContent : MethodName := ⟨RX8, "isContent", "(I)Z"⟩
abbrev cX8_contents : ByteArray := prog_10_method_14_code
def yX8_contents : MethodName := ⟨RX8, "contents", "(I)I"⟩
abbrev cX8_isSeen : ByteArray := prog_10_method_15_code
def yX8_isSeen : MethodName := ⟨RX8, "isSeen", "(III)Z"⟩
abbrev cX8_setPage : ByteArray := prog_10_method_16_code
def yX8_setPage : MethodName := ⟨RX8, "setPage", "(II)I"⟩
abbrev cX8_adds : ByteArray := prog_10_method_17_code
def yX8_adds : MethodName := ⟨RX8, "adds", "(IIIIII)V"⟩
abbrev cX8_isPlace : ByteArray := prog_10_method_18_code
def yX8_isPlace : MethodName := ⟨RX8, "isPlace", "(I)Z"⟩
abbrev cX8_isSize : ByteArray := prog_10_method_19_code
def yX8_isSize : MethodName := ⟨RX8, "isSize", "(I)Z"⟩
abbrev cX8_addPiece : ByteArray := prog_10_method_20_code
def yX8_addPiece : MethodName := ⟨RX8, "addPiece", "(IIIII)I"⟩
abbrev cX8_removePiece : ByteArray := prog_10_method_21_code
def yX8_removePiece : MethodName := ⟨RX8, "removePiece", "(I)I"⟩
abbrev cX8_put : ByteArray := prog_10_method_22_code
def yX8_put : MethodName := ⟨RX8, "put", "(II)I"⟩
abbrev cX8_setShare : ByteArray := prog_10_method_23_code
def yX8_setShare : MethodName := ⟨RX8, "setShare", "(II)I"⟩
abbrev cX8_setFrame : ByteArray := prog_10_method_24_code
def yX8_setFrame : MethodName := ⟨RX8, "setFrame", "(II)I"⟩
abbrev cX8_isPossible : ByteArray := prog_10_method_25_code
def yX8_isPossible : MethodName := ⟨RX8, "isPossible", "(III)Z"⟩
abbrev cX8_shifts : ByteArray := prog_10_method_26_code
def yX8_shifts : MethodName := ⟨RX8, "shifts", "(III)V"⟩
abbrev cX8_shift : ByteArray := prog_10_method_27_code
def yX8_shift : MethodName := ⟨RX8, "shift", "(III)I"⟩
abbrev cX8_lays : ByteArray := prog_10_method_28_code
def yX8_lays : MethodName := ⟨RX8, "lays", "(II)I"⟩
abbrev cX8_setLayer : ByteArray := prog_10_method_29_code
def yX8_setLayer : MethodName := ⟨RX8, "setLayer", "(II)I"⟩
abbrev cX8_isReached : ByteArray := prog_10_method_30_code
def yX8_isReached : MethodName := ⟨RX8, "isReached", "(III)Z"⟩
abbrev cX8_does : ByteArray := prog_10_method_31_code
def yX8_does : MethodName := ⟨RX8, "does", "(IIIII)Z"⟩
abbrev cX8_findLeast : ByteArray := prog_10_method_32_code
def yX8_findLeast : MethodName := ⟨RX8, "findLeast", "(II)I"⟩
abbrev cX8_arranges : ByteArray := prog_10_method_33_code
def yX8_arranges : MethodName := ⟨RX8, "arranges", "()Z"⟩
abbrev cX8_arrange : ByteArray := prog_10_method_34_code
def yX8_arrange : MethodName := ⟨RX8, "arrange", "()I"⟩
abbrev cX8_append : ByteArray := prog_10_method_35_code
def yX8_append : MethodName := ⟨RX8, "append", "(I)I"⟩
abbrev cX8_clearText : ByteArray := prog_10_method_36_code
def yX8_clearText : MethodName := ⟨RX8, "clearText", "()I"⟩
abbrev cX8_here : ByteArray := prog_10_method_37_code
def yX8_here : MethodName := ⟨RX8, "here", "()I"⟩
abbrev cX8_isDigit : ByteArray := prog_10_method_38_code
def yX8_isDigit : MethodName := ⟨RX8, "isDigit", "()Z"⟩
abbrev cX8_readWord : ByteArray := prog_10_method_39_code
def yX8_readWord : MethodName := ⟨RX8, "readWord", "()V"⟩
abbrev cX8_readNumber : ByteArray := prog_10_method_40_code
def yX8_readNumber : MethodName := ⟨RX8, "readNumber", "()V"⟩
abbrev cX8_next : ByteArray := prog_10_method_41_code
def yX8_next : MethodName := ⟨RX8, "next", "()V"⟩
abbrev cX8_takes : ByteArray := prog_10_method_42_code
def yX8_takes : MethodName := ⟨RX8, "takes", "(III)Z"⟩
abbrev cX8_readPiece : ByteArray := prog_10_method_43_code
def yX8_readPiece : MethodName := ⟨RX8, "readPiece", "()Z"⟩
abbrev cX8_readPage : ByteArray := prog_10_method_44_code
def yX8_readPage : MethodName := ⟨RX8, "readPage", "()Z"⟩
abbrev cX8_readItem : ByteArray := prog_10_method_45_code
def yX8_readItem : MethodName := ⟨RX8, "readItem", "()Z"⟩
abbrev cX8_readAll : ByteArray := prog_10_method_46_code
def yX8_readAll : MethodName := ⟨RX8, "readAll", "()Z"⟩
abbrev cX8_load : ByteArray := prog_10_method_47_code
def yX8_load : MethodName := ⟨RX8, "load", "()I"⟩
abbrev cX8_undo : ByteArray := prog_10_method_48_code
def yX8_undo : MethodName := ⟨RX8, "undo", "()I"⟩
abbrev cX8_unseen : ByteArray := prog_10_method_49_code
def yX8_unseen : MethodName := ⟨RX8, "unseen", "()I"⟩
abbrev cX8_isCut : ByteArray := prog_10_method_50_code
def yX8_isCut : MethodName := ⟨RX8, "isCut", "(II)Z"⟩
abbrev cX8_cuts : ByteArray := prog_10_method_51_code
def yX8_cuts : MethodName := ⟨RX8, "cuts", "(I)I"⟩
abbrev cX8_whole : ByteArray := prog_10_method_52_code
def yX8_whole : MethodName := ⟨RX8, "whole", "()I"⟩
abbrev cX8_pageSeen : ByteArray := prog_10_method_53_code
def yX8_pageSeen : MethodName := ⟨RX8, "pageSeen", "()I"⟩
abbrev cX8_count : ByteArray := prog_10_method_54_code
def yX8_count : MethodName := ⟨RX8, "count", "(I)I"⟩
abbrev cX8_goTo : ByteArray := prog_10_method_55_code
def yX8_goTo : MethodName := ⟨RX8, "goTo", "(III)V"⟩
abbrev cX8_partAt : ByteArray := prog_10_method_56_code
def yX8_partAt : MethodName := ⟨RX8, "partAt", "(II)I"⟩
abbrev cX8_parts : ByteArray := prog_10_method_57_code
def yX8_parts : MethodName := ⟨RX8, "parts", "(IZ)I"⟩
abbrev cX8_outside : ByteArray := prog_10_method_58_code
def yX8_outside : MethodName := ⟨RX8, "outside", "(I)I"⟩
abbrev cX8_piece : ByteArray := prog_10_method_59_code
def yX8_piece : MethodName := ⟨RX8, "piece", "(II)I"⟩
abbrev cX8_isCell : ByteArray := prog_10_method_60_code
def yX8_isCell : MethodName := ⟨RX8, "isCell", "(II)Z"⟩
abbrev cX8_seen : ByteArray := prog_10_method_61_code
def yX8_seen : MethodName := ⟨RX8, "seen", "(II)I"⟩
abbrev cX8_inLayer : ByteArray := prog_10_method_62_code
def yX8_inLayer : MethodName := ⟨RX8, "inLayer", "(I)I"⟩
abbrev cX8_covering : ByteArray := prog_10_method_63_code
def yX8_covering : MethodName := ⟨RX8, "covering", "(III)I"⟩
abbrev cX8_sideTo : ByteArray := prog_10_method_64_code
def yX8_sideTo : MethodName := ⟨RX8, "sideTo", "(III)I"⟩
abbrev cX8_edge : ByteArray := prog_10_method_65_code
def yX8_edge : MethodName := ⟨RX8, "edge", "(II)I"⟩
abbrev cX8_hides : ByteArray := prog_10_method_66_code
def yX8_hides : MethodName := ⟨RX8, "hides", "(II)I"⟩
abbrev cX8_percent : ByteArray := prog_10_method_67_code
def yX8_percent : MethodName := ⟨RX8, "percent", "(I)I"⟩
abbrev cX8_isAhead : ByteArray := prog_10_method_68_code
def yX8_isAhead : MethodName := ⟨RX8, "isAhead", "(II)Z"⟩
abbrev cX8_byShare : ByteArray := prog_10_method_69_code
def yX8_byShare : MethodName := ⟨RX8, "byShare", "(I)I"⟩
abbrev cX8_leastShift : ByteArray := prog_10_method_70_code
def yX8_leastShift : MethodName := ⟨RX8, "leastShift", "(III)I"⟩
abbrev cX8_layerFor : ByteArray := prog_10_method_71_code
def yX8_layerFor : MethodName := ⟨RX8, "layerFor", "(I)I"⟩
abbrev cX8_worst : ByteArray := prog_10_method_72_code
def yX8_worst : MethodName := ⟨RX8, "worst", "()I"⟩
def RJx145de : String := "java/io/Serializable"
def TJx145de : u_T := fun k => match k with
  | _ => ("", "", "", false)
def tyJx145de : Nat → FieldType := fun k => match k with
  | _ => .int
abbrev wsJx145de0 : List Cond := u_ws RJx145de TJx145de 0
theorem nmJx145de : ∀ a, a < 0 → ∀ b, b < 0 → a ≠ b → (TJx145de a).2.1 ≠ (TJx145de b).2.1 := by decide +kernel
theorem tyJx145de_ok : ∀ k, k < 0 → parseFieldDescriptor (TJx145de k).2.2.1 = some (tyJx145de k) := by decide +kernel
def RJx9f9b0 : String := "java/lang/CharSequence"
def TJx9f9b0 : u_T := fun k => match k with
  | _ => ("", "", "", false)
def tyJx9f9b0 : Nat → FieldType := fun k => match k with
  | _ => .int
abbrev wsJx9f9b00 : List Cond := u_ws RJx9f9b0 TJx9f9b0 0
theorem nmJx9f9b0 : ∀ a, a < 0 → ∀ b, b < 0 → a ≠ b → (TJx9f9b0 a).2.1 ≠ (TJx9f9b0 b).2.1 := by decide +kernel
theorem tyJx9f9b0_ok : ∀ k, k < 0 → parseFieldDescriptor (TJx9f9b0 k).2.2.1 = some (tyJx9f9b0 k) := by decide +kernel
def RJxb160c : String := "java/lang/Comparable"
def TJxb160c : u_T := fun k => match k with
  | _ => ("", "", "", false)
def tyJxb160c : Nat → FieldType := fun k => match k with
  | _ => .int
abbrev wsJxb160c0 : List Cond := u_ws RJxb160c TJxb160c 0
theorem nmJxb160c : ∀ a, a < 0 → ∀ b, b < 0 → a ≠ b → (TJxb160c a).2.1 ≠ (TJxb160c b).2.1 := by decide +kernel
theorem tyJxb160c_ok : ∀ k, k < 0 → parseFieldDescriptor (TJxb160c k).2.2.1 = some (tyJxb160c k) := by decide +kernel
def RJ6 : String := "java/lang/Integer"
def TJ6 : u_T := fun k => match k with
  | _ => ("", "", "", false)
def tyJ6 : Nat → FieldType := fun k => match k with
  | _ => .int
abbrev wsJ60 : List Cond := u_ws RJ6 TJ6 0
theorem nmJ6 : ∀ a, a < 0 → ∀ b, b < 0 → a ≠ b → (TJ6 a).2.1 ≠ (TJ6 b).2.1 := by decide +kernel
theorem tyJ6_ok : ∀ k, k < 0 → parseFieldDescriptor (TJ6 k).2.2.1 = some (tyJ6 k) := by decide +kernel
abbrev cJ6_bitCount_0f7a4 : ByteArray := prog_11_method_49_code
def yJ6_bitCount_0f7a4 : MethodName := ⟨RJ6, "bitCount", "(I)I"⟩
def RJ9 : String := "java/lang/Math"
def TJ9 : u_T := fun k => match k with
  | _ => ("", "", "", false)
def tyJ9 : Nat → FieldType := fun k => match k with
  | _ => .int
abbrev wsJ90 : List Cond := u_ws RJ9 TJ9 0
theorem nmJ9 : ∀ a, a < 0 → ∀ b, b < 0 → a ≠ b → (TJ9 a).2.1 ≠ (TJ9 b).2.1 := by decide +kernel
theorem tyJ9_ok : ∀ k, k < 0 → parseFieldDescriptor (TJ9 k).2.2.1 = some (tyJ9 k) := by decide +kernel
abbrev cJ9_abs_0f7a4 : ByteArray := prog_12_method_59_code
def yJ9_abs_0f7a4 : MethodName := ⟨RJ9, "abs", "(I)I"⟩
abbrev cJ9_max_7cf53 : ByteArray := prog_12_method_65_code
def yJ9_max_7cf53 : MethodName := ⟨RJ9, "max", "(II)I"⟩
abbrev cJ9_min_7cf53 : ByteArray := prog_12_method_69_code
def yJ9_min_7cf53 : MethodName := ⟨RJ9, "min", "(II)I"⟩
def RJ0 : String := "java/lang/String"
def TJ0 : u_T := fun k => match k with
  | _ => ("", "", "", false)
def tyJ0 : Nat → FieldType := fun k => match k with
  | _ => .int
abbrev wsJ00 : List Cond := u_ws RJ0 TJ0 0
theorem nmJ0 : ∀ a, a < 0 → ∀ b, b < 0 → a ≠ b → (TJ0 a).2.1 ≠ (TJ0 b).2.1 := by decide +kernel
theorem tyJ0_ok : ∀ k, k < 0 → parseFieldDescriptor (TJ0 k).2.2.1 = some (tyJ0 k) := by decide +kernel
abbrev cJ0_length_8abf5 : ByteArray := prog_13_method_54_code
def yJ0_length_8abf5 : MethodName := ⟨RJ0, "length", "()I"⟩
abbrev cJ0_charAt_5068e : ByteArray := prog_13_method_56_code
def yJ0_charAt_5068e : MethodName := ⟨RJ0, "charAt", "(I)C"⟩
abbrev cJ0_coder_7d493 : ByteArray := prog_13_method_152_code
def yJ0_coder_7d493 : MethodName := ⟨RJ0, "coder", "()B"⟩
abbrev cJ0_isLatin1_aae02 : ByteArray := prog_13_method_154_code
def yJ0_isLatin1_aae02 : MethodName := ⟨RJ0, "isLatin1", "()Z"⟩
abbrev cJ0_checkIndex_df160 : ByteArray := prog_13_method_155_code
def yJ0_checkIndex_df160 : MethodName := ⟨RJ0, "checkIndex", "(II)V"⟩
def RJ1 : String := "java/lang/StringLatin1"
def TJ1 : u_T := fun k => match k with
  | _ => ("", "", "", false)
def tyJ1 : Nat → FieldType := fun k => match k with
  | _ => .int
abbrev wsJ10 : List Cond := u_ws RJ1 TJ1 0
theorem nmJ1 : ∀ a, a < 0 → ∀ b, b < 0 → a ≠ b → (TJ1 a).2.1 ≠ (TJ1 b).2.1 := by decide +kernel
theorem tyJ1_ok : ∀ k, k < 0 → parseFieldDescriptor (TJ1 k).2.2.1 = some (tyJ1 k) := by decide +kernel
abbrev cJ1_charAt_3b067 : ByteArray := prog_14_method_2_code
def yJ1_charAt_3b067 : MethodName := ⟨RJ1, "charAt", "([BI)C"⟩
def RJ2 : String := "java/lang/StringUTF16"
def TJ2 : u_T := fun k => match k with
  | _ => ("", "", "", false)
def tyJ2 : Nat → FieldType := fun k => match k with
  | _ => .int
abbrev wsJ20 : List Cond := u_ws RJ2 TJ2 0
theorem nmJ2 : ∀ a, a < 0 → ∀ b, b < 0 → a ≠ b → (TJ2 a).2.1 ≠ (TJ2 b).2.1 := by decide +kernel
theorem tyJ2_ok : ∀ k, k < 0 → parseFieldDescriptor (TJ2 k).2.2.1 = some (tyJ2 k) := by decide +kernel
abbrev cJ2_getChar_3b067 : ByteArray := prog_15_method_5_code
def yJ2_getChar_3b067 : MethodName := ⟨RJ2, "getChar", "([BI)C"⟩
abbrev cJ2_length_9d52b : ByteArray := prog_15_method_6_code
def yJ2_length_9d52b : MethodName := ⟨RJ2, "length", "([B)I"⟩
abbrev cJ2_charAt_3b067 : ByteArray := prog_15_method_83_code
def yJ2_charAt_3b067 : MethodName := ⟨RJ2, "charAt", "([BI)C"⟩
abbrev cJ2_checkIndex_2214a : ByteArray := prog_15_method_91_code
def yJ2_checkIndex_2214a : MethodName := ⟨RJ2, "checkIndex", "(I[B)V"⟩
def RJ10 : String := "java/lang/System"
def TJ10 : u_T := fun k => match k with
  | _ => ("", "", "", false)
def tyJ10 : Nat → FieldType := fun k => match k with
  | _ => .int
abbrev wsJ100 : List Cond := u_ws RJ10 TJ10 0
theorem nmJ10 : ∀ a, a < 0 → ∀ b, b < 0 → a ≠ b → (TJ10 a).2.1 ≠ (TJ10 b).2.1 := by decide +kernel
theorem tyJ10_ok : ∀ k, k < 0 → parseFieldDescriptor (TJ10 k).2.2.1 = some (tyJ10 k) := by decide +kernel
def RJxfd54e : String := "java/lang/constant/Constable"
def TJxfd54e : u_T := fun k => match k with
  | _ => ("", "", "", false)
def tyJxfd54e : Nat → FieldType := fun k => match k with
  | _ => .int
abbrev wsJxfd54e0 : List Cond := u_ws RJxfd54e TJxfd54e 0
theorem nmJxfd54e : ∀ a, a < 0 → ∀ b, b < 0 → a ≠ b → (TJxfd54e a).2.1 ≠ (TJxfd54e b).2.1 := by decide +kernel
theorem tyJxfd54e_ok : ∀ k, k < 0 → parseFieldDescriptor (TJxfd54e k).2.2.1 = some (tyJxfd54e k) := by decide +kernel
def RJx3cf43 : String := "java/lang/constant/ConstantDesc"
def TJx3cf43 : u_T := fun k => match k with
  | _ => ("", "", "", false)
def tyJx3cf43 : Nat → FieldType := fun k => match k with
  | _ => .int
abbrev wsJx3cf430 : List Cond := u_ws RJx3cf43 TJx3cf43 0
theorem nmJx3cf43 : ∀ a, a < 0 → ∀ b, b < 0 → a ≠ b → (TJx3cf43 a).2.1 ≠ (TJx3cf43 b).2.1 := by decide +kernel
theorem tyJx3cf43_ok : ∀ k, k < 0 → parseFieldDescriptor (TJx3cf43 k).2.2.1 = some (tyJx3cf43 k) := by decide +kernel
def RJ7 : String := "java/util/Arrays"
def TJ7 : u_T := fun k => match k with
  | _ => ("", "", "", false)
def tyJ7 : Nat → FieldType := fun k => match k with
  | _ => .int
abbrev wsJ70 : List Cond := u_ws RJ7 TJ7 0
theorem nmJ7 : ∀ a, a < 0 → ∀ b, b < 0 → a ≠ b → (TJ7 a).2.1 ≠ (TJ7 b).2.1 := by decide +kernel
theorem tyJ7_ok : ∀ k, k < 0 → parseFieldDescriptor (TJ7 k).2.2.1 = some (tyJ7 k) := by decide +kernel
abbrev cJ7_fill_53178 : ByteArray := prog_17_method_103_code
def yJ7_fill_53178 : MethodName := ⟨RJ7, "fill", "([II)V"⟩
def RJ3 : String := "jdk/internal/util/Preconditions"
def TJ3 : u_T := fun k => match k with
  | _ => ("", "", "", false)
def tyJ3 : Nat → FieldType := fun k => match k with
  | _ => .int
abbrev wsJ30 : List Cond := u_ws RJ3 TJ3 0
theorem nmJ3 : ∀ a, a < 0 → ∀ b, b < 0 → a ≠ b → (TJ3 a).2.1 ≠ (TJ3 b).2.1 := by decide +kernel
theorem tyJ3_ok : ∀ k, k < 0 → parseFieldDescriptor (TJ3 k).2.2.1 = some (tyJ3 k) := by decide +kernel
abbrev cJ3_checkIndex_8e157 : ByteArray := prog_18_method_11_code
def yJ3_checkIndex_8e157 : MethodName := ⟨RJ3, "checkIndex", "(IILjava/util/function/BiFunction;)I"⟩
def RL : String := "LaidPiecesLaw"
def yL_law : MethodName := ⟨RL, "law", "([I)Z"⟩
def wsX1_init : List Cond := .code yX1_init cX1_init 1 none :: ([.methodLink RX1 3 objectInit, .instanceMethod objectInit, .code objectInit ⟨#[0xb1]⟩ 1 none, .arrayClass .int, .fieldLink RX1 9 "LaidPieces$Layout" "properties" "[I", .fieldLink RX1 15 "LaidPieces$Layout" "order" "[I", .fieldLink RX1 18 "LaidPieces$Layout" "columns" "I", .fieldLink RX1 22 "LaidPieces$Layout" "rows" "I", .fieldLink RX1 25 "LaidPieces$Layout" "pieces" "I", .fieldLink RX1 28 "LaidPieces$Layout" "cost" "I"] ++ wsX10)
def wsX0_init : List Cond := .code yX0_init cX0_init 2 none :: ([.methodLink RX0 3 objectInit, .instanceMethod objectInit, .code objectInit ⟨#[0xb1]⟩ 1 none, .classLink RX0 9 RX1, .fieldLink RX0 11 "LaidPieces$History" "states" "[LLaidPieces$Layout;", .instantiable RX1 6, .initialized RX1, .fieldLink RX0 18 "LaidPieces$History" "first" "I", .fieldLink RX0 22 "LaidPieces$History" "size" "I", .methodLink RX0 17 yX1_init, .instanceMethod yX1_init, .code yX1_init cX1_init 1 none, .methodLink RX1 3 objectInit, .arrayClass .int, .fieldLink RX1 9 "LaidPieces$Layout" "properties" "[I", .fieldLink RX1 15 "LaidPieces$Layout" "order" "[I", .fieldLink RX1 18 "LaidPieces$Layout" "columns" "I", .fieldLink RX1 22 "LaidPieces$Layout" "rows" "I", .fieldLink RX1 25 "LaidPieces$Layout" "pieces" "I", .fieldLink RX1 28 "LaidPieces$Layout" "cost" "I"] ++ wsX00 ++ wsX10)
def wsX0_size : List Cond := .code yX0_size cX0_size 1 (some .int) :: ([.fieldLink RX0 22 "LaidPieces$History" "size" "I"] ++ wsX00)
def wsX0_stateAt : List Cond := .code yX0_stateAt cX0_stateAt 3 (some (.object "LaidPieces$Layout")) :: ([.fieldLink RX0 18 "LaidPieces$History" "first" "I", .fieldLink RX0 11 "LaidPieces$History" "states" "[LLaidPieces$Layout;"] ++ wsX00)
def wsX1_take : List Cond := .code yX1_take cX1_take 2 none :: ([.fieldLink RX1 9 "LaidPieces$Layout" "properties" "[I", .methodLink RX1 31 arraycopyName, .native arraycopyName, .static arraycopyName, .initialized "java/lang/System", .fieldLink RX1 15 "LaidPieces$Layout" "order" "[I", .fieldLink RX1 18 "LaidPieces$Layout" "columns" "I", .fieldLink RX1 22 "LaidPieces$Layout" "rows" "I", .fieldLink RX1 25 "LaidPieces$Layout" "pieces" "I", .fieldLink RX1 28 "LaidPieces$Layout" "cost" "I"] ++ wsX10)
def wsX0_record : List Cond := .code yX0_record cX0_record 3 none :: ([.fieldLink RX0 22 "LaidPieces$History" "size" "I", .fieldLink RX0 18 "LaidPieces$History" "first" "I", .methodLink RX0 25 yX0_stateAt, .instanceMethod yX0_stateAt, .selects RX0 yX0_stateAt yX0_stateAt, .initialized RX0, .code yX0_stateAt cX0_stateAt 3 (some (.object "LaidPieces$Layout")), .fieldLink RX0 11 "LaidPieces$History" "states" "[LLaidPieces$Layout;", .methodLink RX0 29 yX1_take, .instanceMethod yX1_take, .selects RX1 yX1_take yX1_take, .initialized RX1, .code yX1_take cX1_take 2 none, .fieldLink RX1 9 "LaidPieces$Layout" "properties" "[I", .methodLink RX1 31 arraycopyName, .native arraycopyName, .static arraycopyName, .initialized "java/lang/System", .fieldLink RX1 15 "LaidPieces$Layout" "order" "[I", .fieldLink RX1 18 "LaidPieces$Layout" "columns" "I", .fieldLink RX1 22 "LaidPieces$Layout" "rows" "I", .fieldLink RX1 25 "LaidPieces$Layout" "pieces" "I", .fieldLink RX1 28 "LaidPieces$Layout" "cost" "I"] ++ wsX00 ++ wsX10)
def wsX0_restore : List Cond := .code yX0_restore cX0_restore 3 none :: ([.fieldLink RX0 22 "LaidPieces$History" "size" "I", .methodLink RX0 25 yX0_stateAt, .instanceMethod yX0_stateAt, .selects RX0 yX0_stateAt yX0_stateAt, .initialized RX0, .code yX0_stateAt cX0_stateAt 3 (some (.object "LaidPieces$Layout")), .fieldLink RX0 18 "LaidPieces$History" "first" "I", .fieldLink RX0 11 "LaidPieces$History" "states" "[LLaidPieces$Layout;", .methodLink RX0 29 yX1_take, .instanceMethod yX1_take, .selects RX1 yX1_take yX1_take, .initialized RX1, .code yX1_take cX1_take 2 none, .fieldLink RX1 9 "LaidPieces$Layout" "properties" "[I", .methodLink RX1 31 arraycopyName, .native arraycopyName, .static arraycopyName, .initialized "java/lang/System", .fieldLink RX1 15 "LaidPieces$Layout" "order" "[I", .fieldLink RX1 18 "LaidPieces$Layout" "columns" "I", .fieldLink RX1 22 "LaidPieces$Layout" "rows" "I", .fieldLink RX1 25 "LaidPieces$Layout" "pieces" "I", .fieldLink RX1 28 "LaidPieces$Layout" "cost" "I"] ++ wsX00 ++ wsX10)
def wsX1_columns : List Cond := .code yX1_columns cX1_columns 1 (some .int) :: ([.fieldLink RX1 18 "LaidPieces$Layout" "columns" "I"] ++ wsX10)
def wsX1_rows : List Cond := .code yX1_rows cX1_rows 1 (some .int) :: ([.fieldLink RX1 22 "LaidPieces$Layout" "rows" "I"] ++ wsX10)
def wsX1_pieces : List Cond := .code yX1_pieces cX1_pieces 1 (some .int) :: ([.fieldLink RX1 25 "LaidPieces$Layout" "pieces" "I"] ++ wsX10)
def wsX1_cost : List Cond := .code yX1_cost cX1_cost 1 (some .int) :: ([.fieldLink RX1 28 "LaidPieces$Layout" "cost" "I"] ++ wsX10)
def wsX1_isFull : List Cond := .code yX1_isFull cX1_isFull 1 (some .boolean) :: ([.fieldLink RX1 25 "LaidPieces$Layout" "pieces" "I"] ++ wsX10)
def wsX1_has : List Cond := .code yX1_has cX1_has 2 (some .boolean) :: ([.fieldLink RX1 25 "LaidPieces$Layout" "pieces" "I"] ++ wsX10)
def wsX1_hasRow : List Cond := .code yX1_hasRow cX1_hasRow 2 (some .boolean) :: ([.fieldLink RX1 22 "LaidPieces$Layout" "rows" "I"] ++ wsX10)
def wsX1_hasCell : List Cond := .code yX1_hasCell cX1_hasCell 3 (some .boolean) :: ([.fieldLink RX1 18 "LaidPieces$Layout" "columns" "I", .methodLink RX1 37 yX1_hasRow, .instanceMethod yX1_hasRow, .selects RX1 yX1_hasRow yX1_hasRow, .initialized RX1, .code yX1_hasRow cX1_hasRow 2 (some .boolean), .fieldLink RX1 22 "LaidPieces$Layout" "rows" "I"] ++ wsX10)
def wsX1_get : List Cond := .code yX1_get cX1_get 4 (some .int) :: ([.fieldLink RX1 9 "LaidPieces$Layout" "properties" "[I"] ++ wsX10)
def wsX7_put : List Cond := .code yX7_put cX7_put 3 none :: ([])
def wsX1_set : List Cond := .code yX1_set cX1_set 4 none :: ([.fieldLink RX1 9 "LaidPieces$Layout" "properties" "[I", .static yX7_put, .initialized RX7, .code yX7_put cX7_put 3 none] ++ wsX10)
def wsX7_at : List Cond := .code yX7_at cX7_at 2 (some .int) :: ([])
def wsX1_pieceIn : List Cond := .code yX1_pieceIn cX1_pieceIn 2 (some .int) :: ([.fieldLink RX1 15 "LaidPieces$Layout" "order" "[I", .static yX7_at, .initialized RX7, .code yX7_at cX7_at 2 (some .int)] ++ wsX10)
def wsX1_layerOf : List Cond := .code yX1_layerOf cX1_layerOf 3 (some .int) :: ([.fieldLink RX1 25 "LaidPieces$Layout" "pieces" "I", .fieldLink RX1 15 "LaidPieces$Layout" "order" "[I", .static yX7_at, .initialized RX7, .code yX7_at cX7_at 2 (some .int)] ++ wsX10)
def wsX1_resize : List Cond := .code yX1_resize cX1_resize 3 none :: ([.fieldLink RX1 18 "LaidPieces$Layout" "columns" "I", .fieldLink RX1 22 "LaidPieces$Layout" "rows" "I"] ++ wsX10)

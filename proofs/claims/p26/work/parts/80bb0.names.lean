def wsL_refuses_r2 : List Cond := [Cond.code yX1_pieces cX1_pieces 1 (some .int), Cond.fieldLink RX1 25 "LaidPieces$Layout" "pieces" "I", Cond.methodLink RX5 37 yX1_pieceIn, Cond.instanceMethod yX1_pieceIn, Cond.selects RX1 yX1_pieceIn yX1_pieceIn, Cond.code yX1_pieceIn cX1_pieceIn 2 (some .int), Cond.fieldLink RX1 15 "LaidPieces$Layout" "order" "[I", Cond.static yX7_at, Cond.code yX7_at cX7_at 2 (some .int), Cond.methodLink RX5 41 yX5_lookAt, Cond.instanceMethod yX5_lookAt, Cond.selects RX5 yX5_lookAt yX5_lookAt, Cond.code yX5_lookAt cX5_lookAt 10 none, Cond.fieldLink RX5 15 "LaidPieces$Sight" "seenRows" "[I", Cond.fieldLink RX5 22 "LaidPieces$Sight" "cells" "[I", Cond.methodLink RX5 45 yX1_get, Cond.instanceMethod yX1_get, Cond.selects RX1 yX1_get yX1_get, Cond.code yX1_get cX1_get 4 (some .int), Cond.fieldLink RX1 9 "LaidPieces$Layout" "properties" "[I", Cond.methodLink RX5 49 yX1_span, Cond.instanceMethod yX1_span, Cond.selects RX1 yX1_span yX1_span, Cond.code yX1_span cX1_span 5 (some .int)]
def wsL_refuses_r3 : List Cond := [Cond.fieldLink RX1 18 "LaidPieces$Layout" "columns" "I", Cond.methodLink RX5 56 yX1_hasRow, Cond.instanceMethod yX1_hasRow, Cond.selects RX1 yX1_hasRow yX1_hasRow, Cond.code yX1_hasRow cX1_hasRow 2 (some .boolean), Cond.fieldLink RX1 22 "LaidPieces$Layout" "rows" "I", Cond.static yX7_put, Cond.code yX7_put cX7_put 3 none, Cond.methodLink RX5 64 yJ6_bitCount_0f7a4, Cond.static yJ6_bitCount_0f7a4, Cond.initialized RJ6, Cond.code yJ6_bitCount_0f7a4 cJ6_bitCount_0f7a4 1 (some .int), Cond.constant RJ6 265 (1431655765), Cond.constant RJ6 266 (858993459), Cond.constant RJ6 267 (252645135), Cond.methodLink RX7 108 yX1_pieces, Cond.methodLink RX7 151 yX1_columns, Cond.instanceMethod yX1_columns, Cond.selects RX1 yX1_columns yX1_columns, Cond.code yX1_columns cX1_columns 1 (some .int), Cond.methodLink RX7 154 yX1_rows, Cond.instanceMethod yX1_rows, Cond.selects RX1 yX1_rows yX1_rows, Cond.code yX1_rows cX1_rows 1 (some .int)]
def wsL_refuses_r4 : List Cond := [Cond.methodLink RX7 81 yX5_contentPieces, Cond.instanceMethod yX5_contentPieces, Cond.selects RX5 yX5_contentPieces yX5_contentPieces, Cond.code yX5_contentPieces cX5_contentPieces 3 (some .int), Cond.methodLink RX5 72 yX5_isContent, Cond.instanceMethod yX5_isContent, Cond.selects RX5 yX5_isContent yX5_isContent, Cond.code yX5_isContent cX5_isContent 3 (some .boolean), Cond.methodLink RX7 157 yX5_unseenPieces, Cond.instanceMethod yX5_unseenPieces, Cond.selects RX5 yX5_unseenPieces yX5_unseenPieces, Cond.code yX5_unseenPieces cX5_unseenPieces 3 (some .int), Cond.methodLink RX7 160 yX5_wholeFrames, Cond.instanceMethod yX5_wholeFrames, Cond.selects RX5 yX5_wholeFrames yX5_wholeFrames, Cond.code yX5_wholeFrames cX5_wholeFrames 3 (some .int), Cond.methodLink RX5 81 yX5_cutStrips, Cond.instanceMethod yX5_cutStrips, Cond.selects RX5 yX5_cutStrips yX5_cutStrips, Cond.code yX5_cutStrips cX5_cutStrips 9 (some .int), Cond.methodLink RX5 84 Lib.Math.min.name, Cond.static Lib.Math.min.name, Cond.initialized "java/lang/Math", Cond.code Lib.Math.min.name Lib.Math.min.code 2 (some .int)]
def wsL_refuses_r5 : List Cond := [Cond.methodLink RX5 89 yX5_isWholly, Cond.instanceMethod yX5_isWholly, Cond.selects RX5 yX5_isWholly yX5_isWholly, Cond.code yX5_isWholly cX5_isWholly 9 (some .boolean), Cond.methodLink RX5 78 yX5_rowOf, Cond.instanceMethod yX5_rowOf, Cond.selects RX5 yX5_rowOf yX5_rowOf, Cond.code yX5_rowOf cX5_rowOf 5 (some .int), Cond.methodLink RX5 69 yX1_columns, Cond.methodLink RX7 163 yX5_pageCells, Cond.instanceMethod yX5_pageCells, Cond.selects RX5 yX5_pageCells yX5_pageCells, Cond.code yX5_pageCells cX5_pageCells 3 (some .int), Cond.methodLink RX5 75 yX1_rows, Cond.methodLink RX7 166 yX1_cost, Cond.instanceMethod yX1_cost, Cond.selects RX1 yX1_cost yX1_cost, Cond.code yX1_cost cX1_cost 1 (some .int), Cond.fieldLink RX1 28 "LaidPieces$Layout" "cost" "I", Cond.methodLink RX7 145 yX0_size, Cond.instanceMethod yX0_size, Cond.selects RX0 yX0_size yX0_size, Cond.initialized RX0, Cond.code yX0_size cX0_size 1 (some .int)]
def wsL_refuses_r6 : List Cond := [Cond.fieldLink RX0 22 "LaidPieces$History" "size" "I", Cond.methodLink RX7 132 yX6_length, Cond.instanceMethod yX6_length, Cond.selects RX6 yX6_length yX6_length, Cond.initialized RX6, Cond.code yX6_length cX6_length 1 (some .int), Cond.fieldLink RX6 15 "LaidPieces$Text" "length" "I", Cond.methodLink RL 63 yX7_setPage, Cond.instanceMethod yX7_setPage, Cond.selects RX7 yX7_setPage yX7_setPage, Cond.code yX7_setPage cX7_setPage 3 (some .int), Cond.methodLink RX7 67 yX7_isWithin, Cond.static yX7_isWithin, Cond.code yX7_isWithin cX7_isWithin 3 (some .boolean), Cond.methodLink RX7 71 yX0_record, Cond.instanceMethod yX0_record, Cond.selects RX0 yX0_record yX0_record, Cond.code yX0_record cX0_record 3 none, Cond.fieldLink RX0 18 "LaidPieces$History" "first" "I", Cond.methodLink RX0 25 yX0_stateAt, Cond.instanceMethod yX0_stateAt, Cond.selects RX0 yX0_stateAt yX0_stateAt, Cond.code yX0_stateAt cX0_stateAt 3 (some (.object "LaidPieces$Layout")), Cond.fieldLink RX0 11 "LaidPieces$History" "states" "[LLaidPieces$Layout;"]
def wsL_refuses_r7 : List Cond := [Cond.methodLink RX0 29 yX1_take, Cond.instanceMethod yX1_take, Cond.selects RX1 yX1_take yX1_take, Cond.code yX1_take cX1_take 2 none, Cond.methodLink RX1 31 arraycopyName, Cond.native arraycopyName, Cond.static arraycopyName, Cond.initialized "java/lang/System", Cond.methodLink RX7 74 yX1_resize, Cond.instanceMethod yX1_resize, Cond.selects RX1 yX1_resize yX1_resize, Cond.code yX1_resize cX1_resize 3 none, Cond.methodLink RL 66 yX7_addPiece, Cond.instanceMethod yX7_addPiece, Cond.selects RX7 yX7_addPiece yX7_addPiece, Cond.code yX7_addPiece cX7_addPiece 7 (some .int), Cond.methodLink RX7 85 yX7_fits, Cond.static yX7_fits, Cond.code yX7_fits cX7_fits 2 (some .boolean), Cond.fieldLink RX7 234 "LaidPieces" "LOWEST" "[I", Cond.fieldLink RX7 242 "LaidPieces" "HIGHEST" "[I", Cond.methodLink RX7 238 yX7_at, Cond.methodLink RX7 89 yX1_isFull, Cond.instanceMethod yX1_isFull]
def wsL_refuses_r8 : List Cond := [Cond.selects RX1 yX1_isFull yX1_isFull, Cond.code yX1_isFull cX1_isFull 1 (some .boolean), Cond.methodLink RX7 93 yX1_addBlank, Cond.instanceMethod yX1_addBlank, Cond.selects RX1 yX1_addBlank yX1_addBlank, Cond.code yX1_addBlank cX1_addBlank 3 (some .int), Cond.methodLink RX1 49 yX1_set, Cond.instanceMethod yX1_set, Cond.selects RX1 yX1_set yX1_set, Cond.code yX1_set cX1_set 4 none, Cond.methodLink RX7 96 yX1_set, Cond.methodLink RL 70 yX7_removePiece, Cond.instanceMethod yX7_removePiece, Cond.selects RX7 yX7_removePiece yX7_removePiece, Cond.code yX7_removePiece cX7_removePiece 2 (some .int), Cond.methodLink RX7 100 yX1_has, Cond.instanceMethod yX1_has, Cond.selects RX1 yX1_has yX1_has, Cond.code yX1_has cX1_has 2 (some .boolean), Cond.methodLink RX7 104 yX1_remove, Cond.instanceMethod yX1_remove, Cond.selects RX1 yX1_remove yX1_remove, Cond.code yX1_remove cX1_remove 4 none, Cond.methodLink RX1 53 yX1_putIntoLayer]
def wsL_refuses_r9 : List Cond := [Cond.instanceMethod yX1_putIntoLayer, Cond.selects RX1 yX1_putIntoLayer yX1_putIntoLayer, Cond.code yX1_putIntoLayer cX1_putIntoLayer 5 (some .int), Cond.methodLink RX1 57 yX1_layerOf, Cond.instanceMethod yX1_layerOf, Cond.selects RX1 yX1_layerOf yX1_layerOf, Cond.code yX1_layerOf cX1_layerOf 3 (some .int), Cond.methodLink RL 73 yX7_setShare, Cond.instanceMethod yX7_setShare, Cond.selects RX7 yX7_setShare yX7_setShare, Cond.code yX7_setShare cX7_setShare 3 (some .int), Cond.methodLink RX7 111 yX7_setProperty, Cond.instanceMethod yX7_setProperty, Cond.selects RX7 yX7_setProperty yX7_setProperty, Cond.code yX7_setProperty cX7_setProperty 5 (some .int), Cond.methodLink RX7 169 yX1_get, Cond.methodLink RL 76 yX7_setFrame, Cond.instanceMethod yX7_setFrame, Cond.selects RX7 yX7_setFrame yX7_setFrame, Cond.code yX7_setFrame cX7_setFrame 3 (some .int), Cond.methodLink RL 46 yX7_shift, Cond.instanceMethod yX7_shift, Cond.selects RX7 yX7_shift yX7_shift, Cond.code yX7_shift cX7_shift 4 (some .int)]
def wsL_refuses_r10 : List Cond := [Cond.methodLink RX7 115 yX1_canMove, Cond.instanceMethod yX1_canMove, Cond.selects RX1 yX1_canMove yX1_canMove, Cond.code yX1_canMove cX1_canMove 4 (some .boolean), Cond.methodLink RX1 61 yX1_get, Cond.methodLink RX7 118 yX1_move, Cond.instanceMethod yX1_move, Cond.selects RX1 yX1_move yX1_move, Cond.code yX1_move cX1_move 5 (some .int), Cond.methodLink RX1 68 Lib.Math.abs.name, Cond.static Lib.Math.abs.name, Cond.code Lib.Math.abs.name Lib.Math.abs.code 1 (some .int), Cond.methodLink RL 53 yX7_setLayer, Cond.instanceMethod yX7_setLayer, Cond.selects RX7 yX7_setLayer yX7_setLayer, Cond.code yX7_setLayer cX7_setLayer 3 (some .int), Cond.methodLink RX7 121 yX1_putIntoLayer, Cond.methodLink RL 15 yX7_piece, Cond.instanceMethod yX7_piece, Cond.selects RX7 yX7_piece yX7_piece, Cond.code yX7_piece cX7_piece 3 (some .int), Cond.fieldLink RX7 36 "LaidPieces" "parts" "LLaidPieces$Parts;", Cond.methodLink RX7 172 yX1_layerOf, Cond.methodLink RX7 176 yX5_cells]
def wsL_refuses_r11 : List Cond := [Cond.instanceMethod yX5_cells, Cond.selects RX5 yX5_cells yX5_cells, Cond.code yX5_cells cX5_cells 2 (some .int), Cond.methodLink RX7 179 yX5_isContent, Cond.methodLink RX7 182 yX2_split, Cond.instanceMethod yX2_split, Cond.selects RX2 yX2_split yX2_split, Cond.initialized RX2, Cond.code yX2_split cX2_split 4 none, Cond.fieldLink RX2 22 "LaidPieces$Parts" "number" "I", Cond.fieldLink RX2 26 "LaidPieces$Parts" "largest" "I", Cond.fieldLink RX2 15 "LaidPieces$Parts" "rest" "[I", Cond.fieldLink RX2 9 "LaidPieces$Parts" "sight" "LLaidPieces$Sight;", Cond.methodLink RX2 47 Lib.Math.max.name, Cond.static Lib.Math.max.name, Cond.code Lib.Math.max.name Lib.Math.max.code 2 (some .int), Cond.methodLink RX2 29 yX5_rowOf, Cond.methodLink RX2 43 yX2_takePart, Cond.instanceMethod yX2_takePart, Cond.selects RX2 yX2_takePart yX2_takePart, Cond.code yX2_takePart cX2_takePart 5 (some .int), Cond.fieldLink RX2 19 "LaidPieces$Parts" "part" "[I", Cond.methodLink RX2 52 yJ7_fill_53178, Cond.methodLink RX2 58 yX2_grow]
def wsL_refuses_r12 : List Cond := [Cond.instanceMethod yX2_grow, Cond.selects RX2 yX2_grow yX2_grow, Cond.code yX2_grow cX2_grow 6 (some .boolean), Cond.methodLink RX2 62 yJ6_bitCount_0f7a4, Cond.methodLink RX7 185 yX2_number, Cond.instanceMethod yX2_number, Cond.selects RX2 yX2_number yX2_number, Cond.code yX2_number cX2_number 1 (some .int), Cond.methodLink RX7 188 yX2_largest, Cond.instanceMethod yX2_largest, Cond.selects RX2 yX2_largest yX2_largest, Cond.code yX2_largest cX2_largest 1 (some .int), Cond.methodLink RX7 191 yX5_cutStrips, Cond.methodLink RX7 194 yX1_cellsOutside, Cond.instanceMethod yX1_cellsOutside, Cond.selects RX1 yX1_cellsOutside yX1_cellsOutside, Cond.code yX1_cellsOutside cX1_cellsOutside 4 (some .int), Cond.methodLink RX1 76 yX1_coverRow, Cond.instanceMethod yX1_coverRow, Cond.selects RX1 yX1_coverRow yX1_coverRow, Cond.code yX1_coverRow cX1_coverRow 5 (some .int), Cond.methodLink RX1 37 yX1_hasRow, Cond.methodLink RX1 73 yX1_span, Cond.methodLink RX1 79 yJ6_bitCount_0f7a4]
def wsL_refuses_r13 : List Cond := [Cond.methodLink RX1 84 yX1_area, Cond.instanceMethod yX1_area, Cond.selects RX1 yX1_area yX1_area, Cond.code yX1_area cX1_area 2 (some .int), Cond.methodLink RL 19 yX7_edge, Cond.instanceMethod yX7_edge, Cond.selects RX7 yX7_edge yX7_edge, Cond.code yX7_edge cX7_edge 4 (some .int), Cond.methodLink RX7 206 yX5_borderEdge, Cond.instanceMethod yX5_borderEdge, Cond.selects RX5 yX5_borderEdge yX5_borderEdge, Cond.code yX5_borderEdge cX5_borderEdge 5 (some .int), Cond.methodLink RX7 209 yX5_edgeBetween, Cond.instanceMethod yX5_edgeBetween, Cond.selects RX5 yX5_edgeBetween yX5_edgeBetween, Cond.code yX5_edgeBetween cX5_edgeBetween 7 (some .int), Cond.methodLink RL 22 yX7_hides, Cond.instanceMethod yX7_hides, Cond.selects RX7 yX7_hides yX7_hides, Cond.code yX7_hides cX7_hides 3 (some .int), Cond.methodLink RX7 212 yX5_hiddenCells, Cond.instanceMethod yX5_hiddenCells, Cond.selects RX5 yX5_hiddenCells yX5_hiddenCells, Cond.code yX5_hiddenCells cX5_hiddenCells 5 (some .int)]
def wsL_refuses_r14 : List Cond := [Cond.methodLink RX5 93 yX1_coverRow, Cond.methodLink RL 43 yX7_leastShift, Cond.instanceMethod yX7_leastShift, Cond.selects RX7 yX7_leastShift yX7_leastShift, Cond.code yX7_leastShift cX7_leastShift 4 (some .int), Cond.fieldLink RX7 43 "LaidPieces" "plans" "LLaidPieces$Plans;", Cond.methodLink RX7 218 yX3_findShift, Cond.instanceMethod yX3_findShift, Cond.selects RX3 yX3_findShift yX3_findShift, Cond.initialized RX3, Cond.code yX3_findShift cX3_findShift 8 (some .boolean), Cond.fieldLink RX3 18 "LaidPieces$Plans" "trial" "LLaidPieces$Layout;", Cond.fieldLink RX3 12 "LaidPieces$Plans" "now" "LLaidPieces$Layout;", Cond.methodLink RX3 37 Lib.Math.abs.name, Cond.methodLink RX3 43 yX1_take, Cond.methodLink RX3 46 yX3_contentPiecesNeeded, Cond.instanceMethod yX3_contentPiecesNeeded, Cond.selects RX3 yX3_contentPiecesNeeded yX3_contentPiecesNeeded, Cond.code yX3_contentPiecesNeeded cX3_contentPiecesNeeded 2 (some .int), Cond.fieldLink RX3 26 "LaidPieces$Plans" "sight" "LLaidPieces$Sight;", Cond.methodLink RX3 53 yX5_look, Cond.methodLink RX3 56 yX5_contentPieces, Cond.methodLink RX3 60 yX1_pieces, Cond.methodLink RX3 49 yX3_reaches]
def wsL_refuses_r15 : List Cond := [Cond.instanceMethod yX3_reaches, Cond.selects RX3 yX3_reaches yX3_reaches, Cond.code yX3_reaches cX3_reaches 5 (some .boolean), Cond.fieldLink RX3 30 "LaidPieces$Plans" "dx" "I", Cond.fieldLink RX3 34 "LaidPieces$Plans" "dy" "I", Cond.methodLink RX3 63 yX1_canMove, Cond.methodLink RX3 67 yX1_get, Cond.methodLink RX3 71 yX1_set, Cond.methodLink RX3 75 yX5_isContent, Cond.methodLink RX7 221 yX3_cost, Cond.instanceMethod yX3_cost, Cond.selects RX3 yX3_cost yX3_cost, Cond.code yX3_cost cX3_cost 1 (some .int), Cond.methodLink RX7 222 yX3_dx, Cond.instanceMethod yX3_dx, Cond.selects RX3 yX3_dx yX3_dx, Cond.code yX3_dx cX3_dx 1 (some .int), Cond.methodLink RX7 225 yX3_dy, Cond.instanceMethod yX3_dy, Cond.selects RX3 yX3_dy yX3_dy, Cond.code yX3_dy cX3_dy 1 (some .int), Cond.methodLink RL 40 yX7_layerFor, Cond.instanceMethod yX7_layerFor, Cond.selects RX7 yX7_layerFor yX7_layerFor]
def wsL_refuses_r16 : List Cond := [Cond.code yX7_layerFor cX7_layerFor 2 (some .int), Cond.methodLink RX7 228 yX3_lowestLayer, Cond.instanceMethod yX3_lowestLayer, Cond.selects RX3 yX3_lowestLayer yX3_lowestLayer, Cond.code yX3_lowestLayer cX3_lowestLayer 3 (some .int), Cond.methodLink RX3 79 yX1_putIntoLayer, Cond.methodLink RL 79 yX7_append, Cond.instanceMethod yX7_append, Cond.selects RX7 yX7_append yX7_append, Cond.code yX7_append cX7_append 2 (some .int), Cond.methodLink RX7 128 yX6_isFull, Cond.instanceMethod yX6_isFull, Cond.selects RX6 yX6_isFull yX6_isFull, Cond.code yX6_isFull cX6_isFull 1 (some .boolean), Cond.methodLink RX7 129 yX6_add, Cond.instanceMethod yX6_add, Cond.selects RX6 yX6_add yX6_add, Cond.code yX6_add cX6_add 2 none, Cond.fieldLink RX6 9 "LaidPieces$Text" "characters" "[I"]
def wsL_refuses : List Cond := .code yL_refuses cL_refuses 5 (some .boolean) :: ((wsL_refuses_r1 ++ (wsL_refuses_r2 ++ (wsL_refuses_r3 ++ (wsL_refuses_r4 ++ (wsL_refuses_r5 ++ (wsL_refuses_r6 ++ (wsL_refuses_r7 ++ (wsL_refuses_r8 ++ (wsL_refuses_r9 ++ (wsL_refuses_r10 ++ (wsL_refuses_r11 ++ (wsL_refuses_r12 ++ (wsL_refuses_r13 ++ (wsL_refuses_r14 ++ (wsL_refuses_r15 ++ wsL_refuses_r16))))))))))))))) ++ wsX70 ++ wsX50 ++ wsX10 ++ wsX00 ++ wsX60 ++ wsX20 ++ wsX30)
theorem inJ6 : ∀ w ∈ wsJ60, w ∈ lw_tbl := by decide +kernel
theorem inJ9 : ∀ w ∈ wsJ90, w ∈ lw_tbl := by decide +kernel
theorem inJ10 : ∀ w ∈ wsJ100, w ∈ lw_tbl := by decide +kernel
theorem inJ7 : ∀ w ∈ wsJ70, w ∈ lw_tbl := by decide +kernel
set_option maxRecDepth 100000 in
theorem ggX0_init_X1_init : GoodIn wsX0_init wsX1_init := goodIn_r _ [12, 13, 2, 3, 14, 15, 16, 17, 18, 19, 20, 24, 25, 26, 27, 28, 29] rfl (by decide +kernel)
set_option maxRecDepth 100000 in
theorem gX0_init_X1_init : GoodIn wsX0_init (wsX1_init) := ggX0_init_X1_init
theorem dX0_init_0 : decode cX0_init 0 = .ok (.aload_n 0, 1) := by decide +kernel
theorem dX0_init_1 : decode cX0_init 1 = .ok (.invokespecial 3, 3) := by decide +kernel
theorem dX0_init_4 : decode cX0_init 4 = .ok (.aload_n 0, 1) := by decide +kernel
theorem dX0_init_5 : decode cX0_init 5 = .ok (.iconst 5, 1) := by decide +kernel
theorem dX0_init_6 : decode cX0_init 6 = .ok (.anewarray 9, 3) := by decide +kernel
theorem dX0_init_9 : decode cX0_init 9 = .ok (.putfield 11, 3) := by decide +kernel
theorem dX0_init_12 : decode cX0_init 12 = .ok (.iconst 0, 1) := by decide +kernel
theorem dX0_init_13 : decode cX0_init 13 = .ok (.istore_n 1, 1) := by decide +kernel
theorem dX0_init_14 : decode cX0_init 14 = .ok (.iload_n 1, 1) := by decide +kernel
theorem dX0_init_15 : decode cX0_init 15 = .ok (.aload_n 0, 1) := by decide +kernel
theorem dX0_init_16 : decode cX0_init 16 = .ok (.getfield 11, 3) := by decide +kernel
theorem dX0_init_19 : decode cX0_init 19 = .ok (.arraylength, 1) := by decide +kernel
theorem dX0_init_20 : decode cX0_init 20 = .ok (.if_icmp .ge 22, 3) := by decide +kernel
theorem dX0_init_23 : decode cX0_init 23 = .ok (.aload_n 0, 1) := by decide +kernel
theorem dX0_init_24 : decode cX0_init 24 = .ok (.getfield 11, 3) := by decide +kernel
theorem dX0_init_27 : decode cX0_init 27 = .ok (.iload_n 1, 1) := by decide +kernel
theorem dX0_init_28 : decode cX0_init 28 = .ok (.new 9, 3) := by decide +kernel
theorem dX0_init_31 : decode cX0_init 31 = .ok (.dup, 1) := by decide +kernel
theorem dX0_init_32 : decode cX0_init 32 = .ok (.invokespecial 17, 3) := by decide +kernel
theorem dX0_init_35 : decode cX0_init 35 = .ok (.aastore, 1) := by decide +kernel
theorem dX0_init_36 : decode cX0_init 36 = .ok (.iinc 1 1, 3) := by decide +kernel
theorem dX0_init_39 : decode cX0_init 39 = .ok (.goto (-25), 3) := by decide +kernel
theorem dX0_init_42 : decode cX0_init 42 = .ok (.aload_n 0, 1) := by decide +kernel
theorem dX0_init_43 : decode cX0_init 43 = .ok (.iconst 0, 1) := by decide +kernel
theorem dX0_init_44 : decode cX0_init 44 = .ok (.putfield 18, 3) := by decide +kernel
theorem dX0_init_47 : decode cX0_init 47 = .ok (.aload_n 0, 1) := by decide +kernel
theorem dX0_init_48 : decode cX0_init 48 = .ok (.iconst 0, 1) := by decide +kernel
theorem dX0_init_49 : decode cX0_init 49 = .ok (.putfield 22, 3) := by decide +kernel
theorem dX0_init_52 : decode cX0_init 52 = .ok (.return_, 1) := by decide +kernel
theorem dX0_size_0 : decode cX0_size 0 = .ok (.aload_n 0, 1) := by decide +kernel
theorem dX0_size_1 : decode cX0_size 1 = .ok (.getfield 22, 3) := by decide +kernel
theorem dX0_size_4 : decode cX0_size 4 = .ok (.ireturn, 1) := by decide +kernel
set_option maxRecDepth 100000 in
theorem ggX0_record_X0_stateAt : GoodIn wsX0_record wsX0_stateAt := goodIn_r _ [7, 2, 8, 24, 25, 26] rfl (by decide +kernel)
set_option maxRecDepth 100000 in
theorem gX0_record_X0_stateAt : GoodIn wsX0_record (wsV RX0 25 RX0 yX0_stateAt wsX0_stateAt) := goodIn_app (goodIn_of _ (by decide +kernel)) ggX0_record_X0_stateAt
set_option maxRecDepth 100000 in
theorem ggX0_record_X1_take : GoodIn wsX0_record wsX1_take := goodIn_r _ [13, 14, 15, 16, 17, 18, 19, 20, 21, 22, 23, 27, 28, 29, 30, 31, 32] rfl (by decide +kernel)
set_option maxRecDepth 100000 in
theorem gX0_record_X1_take : GoodIn wsX0_record (wsV RX0 29 RX1 yX1_take wsX1_take) := goodIn_app (goodIn_of _ (by decide +kernel)) ggX0_record_X1_take
theorem dX0_record_0 : decode cX0_record 0 = .ok (.aload_n 0, 1) := by decide +kernel
theorem dX0_record_1 : decode cX0_record 1 = .ok (.getfield 22, 3) := by decide +kernel
theorem dX0_record_4 : decode cX0_record 4 = .ok (.iconst 5, 1) := by decide +kernel
theorem dX0_record_5 : decode cX0_record 5 = .ok (.if_icmp .ne 25, 3) := by decide +kernel
theorem dX0_record_8 : decode cX0_record 8 = .ok (.aload_n 0, 1) := by decide +kernel
theorem dX0_record_9 : decode cX0_record 9 = .ok (.aload_n 0, 1) := by decide +kernel
theorem dX0_record_10 : decode cX0_record 10 = .ok (.getfield 18, 3) := by decide +kernel
theorem dX0_record_13 : decode cX0_record 13 = .ok (.iconst 1, 1) := by decide +kernel
theorem dX0_record_14 : decode cX0_record 14 = .ok (.iadd, 1) := by decide +kernel
theorem dX0_record_15 : decode cX0_record 15 = .ok (.iconst 5, 1) := by decide +kernel
theorem dX0_record_16 : decode cX0_record 16 = .ok (.irem, 1) := by decide +kernel
theorem dX0_record_17 : decode cX0_record 17 = .ok (.putfield 18, 3) := by decide +kernel
theorem dX0_record_20 : decode cX0_record 20 = .ok (.aload_n 0, 1) := by decide +kernel
theorem dX0_record_21 : decode cX0_record 21 = .ok (.dup, 1) := by decide +kernel
theorem dX0_record_22 : decode cX0_record 22 = .ok (.getfield 22, 3) := by decide +kernel
theorem dX0_record_25 : decode cX0_record 25 = .ok (.iconst 1, 1) := by decide +kernel
theorem dX0_record_26 : decode cX0_record 26 = .ok (.isub, 1) := by decide +kernel
theorem dX0_record_27 : decode cX0_record 27 = .ok (.putfield 22, 3) := by decide +kernel
theorem dX0_record_30 : decode cX0_record 30 = .ok (.aload_n 0, 1) := by decide +kernel
theorem dX0_record_31 : decode cX0_record 31 = .ok (.aload_n 0, 1) := by decide +kernel
theorem dX0_record_32 : decode cX0_record 32 = .ok (.getfield 22, 3) := by decide +kernel
theorem dX0_record_35 : decode cX0_record 35 = .ok (.invokevirtual 25, 3) := by decide +kernel
theorem dX0_record_38 : decode cX0_record 38 = .ok (.astore_n 2, 1) := by decide +kernel
theorem dX0_record_39 : decode cX0_record 39 = .ok (.aload_n 2, 1) := by decide +kernel
theorem dX0_record_40 : decode cX0_record 40 = .ok (.ifnull 18, 3) := by decide +kernel
theorem dX0_record_43 : decode cX0_record 43 = .ok (.aload_n 2, 1) := by decide +kernel
theorem dX0_record_44 : decode cX0_record 44 = .ok (.aload_n 1, 1) := by decide +kernel
theorem dX0_record_45 : decode cX0_record 45 = .ok (.invokevirtual 29, 3) := by decide +kernel
theorem dX0_record_48 : decode cX0_record 48 = .ok (.aload_n 0, 1) := by decide +kernel
theorem dX0_record_49 : decode cX0_record 49 = .ok (.dup, 1) := by decide +kernel
theorem dX0_record_50 : decode cX0_record 50 = .ok (.getfield 22, 3) := by decide +kernel
theorem dX0_record_53 : decode cX0_record 53 = .ok (.iconst 1, 1) := by decide +kernel
theorem dX0_record_54 : decode cX0_record 54 = .ok (.iadd, 1) := by decide +kernel
theorem dX0_record_55 : decode cX0_record 55 = .ok (.putfield 22, 3) := by decide +kernel
theorem dX0_record_58 : decode cX0_record 58 = .ok (.return_, 1) := by decide +kernel
set_option maxRecDepth 100000 in
theorem ggX0_restore_X0_stateAt : GoodIn wsX0_restore wsX0_stateAt := goodIn_r _ [6, 7, 8, 24, 25, 26] rfl (by decide +kernel)
set_option maxRecDepth 100000 in
theorem gX0_restore_X0_stateAt : GoodIn wsX0_restore (wsV RX0 25 RX0 yX0_stateAt wsX0_stateAt) := goodIn_app (goodIn_of _ (by decide +kernel)) ggX0_restore_X0_stateAt
set_option maxRecDepth 100000 in
theorem ggX0_restore_X1_take : GoodIn wsX0_restore wsX1_take := goodIn_r _ [13, 14, 15, 16, 17, 18, 19, 20, 21, 22, 23, 27, 28, 29, 30, 31, 32] rfl (by decide +kernel)
set_option maxRecDepth 100000 in
theorem gX0_restore_X1_take : GoodIn wsX0_restore (wsV RX0 29 RX1 yX1_take wsX1_take) := goodIn_app (goodIn_of _ (by decide +kernel)) ggX0_restore_X1_take
theorem dX0_restore_0 : decode cX0_restore 0 = .ok (.aload_n 0, 1) := by decide +kernel
theorem dX0_restore_1 : decode cX0_restore 1 = .ok (.aload_n 0, 1) := by decide +kernel
theorem dX0_restore_2 : decode cX0_restore 2 = .ok (.getfield 22, 3) := by decide +kernel
theorem dX0_restore_5 : decode cX0_restore 5 = .ok (.iconst 1, 1) := by decide +kernel
theorem dX0_restore_6 : decode cX0_restore 6 = .ok (.isub, 1) := by decide +kernel
theorem dX0_restore_7 : decode cX0_restore 7 = .ok (.invokevirtual 25, 3) := by decide +kernel
theorem dX0_restore_10 : decode cX0_restore 10 = .ok (.astore_n 2, 1) := by decide +kernel
theorem dX0_restore_11 : decode cX0_restore 11 = .ok (.aload_n 2, 1) := by decide +kernel
theorem dX0_restore_12 : decode cX0_restore 12 = .ok (.ifnull 18, 3) := by decide +kernel
theorem dX0_restore_15 : decode cX0_restore 15 = .ok (.aload_n 1, 1) := by decide +kernel
theorem dX0_restore_16 : decode cX0_restore 16 = .ok (.aload_n 2, 1) := by decide +kernel
theorem dX0_restore_17 : decode cX0_restore 17 = .ok (.invokevirtual 29, 3) := by decide +kernel
theorem dX0_restore_20 : decode cX0_restore 20 = .ok (.aload_n 0, 1) := by decide +kernel
theorem dX0_restore_21 : decode cX0_restore 21 = .ok (.dup, 1) := by decide +kernel
theorem dX0_restore_22 : decode cX0_restore 22 = .ok (.getfield 22, 3) := by decide +kernel
theorem dX0_restore_25 : decode cX0_restore 25 = .ok (.iconst 1, 1) := by decide +kernel
theorem dX0_restore_26 : decode cX0_restore 26 = .ok (.isub, 1) := by decide +kernel
theorem dX0_restore_27 : decode cX0_restore 27 = .ok (.putfield 22, 3) := by decide +kernel
theorem dX0_restore_30 : decode cX0_restore 30 = .ok (.return_, 1) := by decide +kernel
theorem dX0_stateAt_0 : decode cX0_stateAt 0 = .ok (.aload_n 0, 1) := by decide +kernel
theorem dX0_stateAt_1 : decode cX0_stateAt 1 = .ok (.getfield 18, 3) := by decide +kernel
theorem dX0_stateAt_4 : decode cX0_stateAt 4 = .ok (.iload_n 1, 1) := by decide +kernel
theorem dX0_stateAt_5 : decode cX0_stateAt 5 = .ok (.iadd, 1) := by decide +kernel
theorem dX0_stateAt_6 : decode cX0_stateAt 6 = .ok (.iconst 5, 1) := by decide +kernel
theorem dX0_stateAt_7 : decode cX0_stateAt 7 = .ok (.irem, 1) := by decide +kernel
theorem dX0_stateAt_8 : decode cX0_stateAt 8 = .ok (.istore_n 2, 1) := by decide +kernel
theorem dX0_stateAt_9 : decode cX0_stateAt 9 = .ok (.iload_n 2, 1) := by decide +kernel
theorem dX0_stateAt_10 : decode cX0_stateAt 10 = .ok (.ifCond .lt 21, 3) := by decide +kernel
theorem dX0_stateAt_13 : decode cX0_stateAt 13 = .ok (.iload_n 2, 1) := by decide +kernel
theorem dX0_stateAt_14 : decode cX0_stateAt 14 = .ok (.aload_n 0, 1) := by decide +kernel
theorem dX0_stateAt_15 : decode cX0_stateAt 15 = .ok (.getfield 11, 3) := by decide +kernel
theorem dX0_stateAt_18 : decode cX0_stateAt 18 = .ok (.arraylength, 1) := by decide +kernel
theorem dX0_stateAt_19 : decode cX0_stateAt 19 = .ok (.if_icmp .ge 12, 3) := by decide +kernel
theorem dX0_stateAt_22 : decode cX0_stateAt 22 = .ok (.aload_n 0, 1) := by decide +kernel
theorem dX0_stateAt_23 : decode cX0_stateAt 23 = .ok (.getfield 11, 3) := by decide +kernel
theorem dX0_stateAt_26 : decode cX0_stateAt 26 = .ok (.iload_n 2, 1) := by decide +kernel
theorem dX0_stateAt_27 : decode cX0_stateAt 27 = .ok (.aaload, 1) := by decide +kernel
theorem dX0_stateAt_28 : decode cX0_stateAt 28 = .ok (.goto 4, 3) := by decide +kernel
theorem dX0_stateAt_31 : decode cX0_stateAt 31 = .ok (.aconst_null, 1) := by decide +kernel
theorem dX0_stateAt_32 : decode cX0_stateAt 32 = .ok (.areturn, 1) := by decide +kernel
theorem dX1_init_0 : decode cX1_init 0 = .ok (.aload_n 0, 1) := by decide +kernel
theorem dX1_init_1 : decode cX1_init 1 = .ok (.invokespecial 3, 3) := by decide +kernel
theorem dX1_init_4 : decode cX1_init 4 = .ok (.aload_n 0, 1) := by decide +kernel
theorem dX1_init_5 : decode cX1_init 5 = .ok (.bipush 72, 2) := by decide +kernel
theorem dX1_init_7 : decode cX1_init 7 = .ok (.newarray .int, 2) := by decide +kernel
theorem dX1_init_9 : decode cX1_init 9 = .ok (.putfield 9, 3) := by decide +kernel
theorem dX1_init_12 : decode cX1_init 12 = .ok (.aload_n 0, 1) := by decide +kernel
theorem dX1_init_13 : decode cX1_init 13 = .ok (.bipush 12, 2) := by decide +kernel
theorem dX1_init_15 : decode cX1_init 15 = .ok (.newarray .int, 2) := by decide +kernel
theorem dX1_init_17 : decode cX1_init 17 = .ok (.putfield 15, 3) := by decide +kernel
theorem dX1_init_20 : decode cX1_init 20 = .ok (.aload_n 0, 1) := by decide +kernel
theorem dX1_init_21 : decode cX1_init 21 = .ok (.bipush 16, 2) := by decide +kernel
theorem dX1_init_23 : decode cX1_init 23 = .ok (.putfield 18, 3) := by decide +kernel
theorem dX1_init_26 : decode cX1_init 26 = .ok (.aload_n 0, 1) := by decide +kernel
theorem dX1_init_27 : decode cX1_init 27 = .ok (.bipush 12, 2) := by decide +kernel
theorem dX1_init_29 : decode cX1_init 29 = .ok (.putfield 22, 3) := by decide +kernel
theorem dX1_init_32 : decode cX1_init 32 = .ok (.aload_n 0, 1) := by decide +kernel
theorem dX1_init_33 : decode cX1_init 33 = .ok (.iconst 0, 1) := by decide +kernel
theorem dX1_init_34 : decode cX1_init 34 = .ok (.putfield 25, 3) := by decide +kernel
theorem dX1_init_37 : decode cX1_init 37 = .ok (.aload_n 0, 1) := by decide +kernel
theorem dX1_init_38 : decode cX1_init 38 = .ok (.iconst 0, 1) := by decide +kernel
theorem dX1_init_39 : decode cX1_init 39 = .ok (.putfield 28, 3) := by decide +kernel
theorem dX1_init_42 : decode cX1_init 42 = .ok (.return_, 1) := by decide +kernel
theorem dX1_take_0 : decode cX1_take 0 = .ok (.aload_n 1, 1) := by decide +kernel
theorem dX1_take_1 : decode cX1_take 1 = .ok (.getfield 9, 3) := by decide +kernel
theorem dX1_take_4 : decode cX1_take 4 = .ok (.iconst 0, 1) := by decide +kernel
theorem dX1_take_5 : decode cX1_take 5 = .ok (.aload_n 0, 1) := by decide +kernel
theorem dX1_take_6 : decode cX1_take 6 = .ok (.getfield 9, 3) := by decide +kernel
theorem dX1_take_9 : decode cX1_take 9 = .ok (.iconst 0, 1) := by decide +kernel
theorem dX1_take_10 : decode cX1_take 10 = .ok (.bipush 72, 2) := by decide +kernel
theorem dX1_take_12 : decode cX1_take 12 = .ok (.invokestatic 31, 3) := by decide +kernel
theorem dX1_take_15 : decode cX1_take 15 = .ok (.aload_n 1, 1) := by decide +kernel
theorem dX1_take_16 : decode cX1_take 16 = .ok (.getfield 15, 3) := by decide +kernel
theorem dX1_take_19 : decode cX1_take 19 = .ok (.iconst 0, 1) := by decide +kernel
theorem dX1_take_20 : decode cX1_take 20 = .ok (.aload_n 0, 1) := by decide +kernel
theorem dX1_take_21 : decode cX1_take 21 = .ok (.getfield 15, 3) := by decide +kernel
theorem dX1_take_24 : decode cX1_take 24 = .ok (.iconst 0, 1) := by decide +kernel
theorem dX1_take_25 : decode cX1_take 25 = .ok (.bipush 12, 2) := by decide +kernel
theorem dX1_take_27 : decode cX1_take 27 = .ok (.invokestatic 31, 3) := by decide +kernel
theorem dX1_take_30 : decode cX1_take 30 = .ok (.aload_n 0, 1) := by decide +kernel
theorem dX1_take_31 : decode cX1_take 31 = .ok (.aload_n 1, 1) := by decide +kernel
theorem dX1_take_32 : decode cX1_take 32 = .ok (.getfield 18, 3) := by decide +kernel
theorem dX1_take_35 : decode cX1_take 35 = .ok (.putfield 18, 3) := by decide +kernel
theorem dX1_take_38 : decode cX1_take 38 = .ok (.aload_n 0, 1) := by decide +kernel
theorem dX1_take_39 : decode cX1_take 39 = .ok (.aload_n 1, 1) := by decide +kernel
theorem dX1_take_40 : decode cX1_take 40 = .ok (.getfield 22, 3) := by decide +kernel
theorem dX1_take_43 : decode cX1_take 43 = .ok (.putfield 22, 3) := by decide +kernel
theorem dX1_take_46 : decode cX1_take 46 = .ok (.aload_n 0, 1) := by decide +kernel
theorem dX1_take_47 : decode cX1_take 47 = .ok (.aload_n 1, 1) := by decide +kernel
theorem dX1_take_48 : decode cX1_take 48 = .ok (.getfield 25, 3) := by decide +kernel
theorem dX1_take_51 : decode cX1_take 51 = .ok (.putfield 25, 3) := by decide +kernel
theorem dX1_take_54 : decode cX1_take 54 = .ok (.aload_n 0, 1) := by decide +kernel
theorem dX1_take_55 : decode cX1_take 55 = .ok (.aload_n 1, 1) := by decide +kernel
theorem dX1_take_56 : decode cX1_take 56 = .ok (.getfield 28, 3) := by decide +kernel
theorem dX1_take_59 : decode cX1_take 59 = .ok (.putfield 28, 3) := by decide +kernel
theorem dX1_take_62 : decode cX1_take 62 = .ok (.return_, 1) := by decide +kernel
theorem dX1_columns_0 : decode cX1_columns 0 = .ok (.aload_n 0, 1) := by decide +kernel
theorem dX1_columns_1 : decode cX1_columns 1 = .ok (.getfield 18, 3) := by decide +kernel
theorem dX1_columns_4 : decode cX1_columns 4 = .ok (.ireturn, 1) := by decide +kernel
theorem dX1_rows_0 : decode cX1_rows 0 = .ok (.aload_n 0, 1) := by decide +kernel
theorem dX1_rows_1 : decode cX1_rows 1 = .ok (.getfield 22, 3) := by decide +kernel
theorem dX1_rows_4 : decode cX1_rows 4 = .ok (.ireturn, 1) := by decide +kernel
theorem dX1_pieces_0 : decode cX1_pieces 0 = .ok (.aload_n 0, 1) := by decide +kernel
theorem dX1_pieces_1 : decode cX1_pieces 1 = .ok (.getfield 25, 3) := by decide +kernel
theorem dX1_pieces_4 : decode cX1_pieces 4 = .ok (.ireturn, 1) := by decide +kernel
theorem dX1_cost_0 : decode cX1_cost 0 = .ok (.aload_n 0, 1) := by decide +kernel
theorem dX1_cost_1 : decode cX1_cost 1 = .ok (.getfield 28, 3) := by decide +kernel
theorem dX1_cost_4 : decode cX1_cost 4 = .ok (.ireturn, 1) := by decide +kernel
theorem dX1_isFull_0 : decode cX1_isFull 0 = .ok (.aload_n 0, 1) := by decide +kernel
theorem dX1_isFull_1 : decode cX1_isFull 1 = .ok (.getfield 25, 3) := by decide +kernel
theorem dX1_isFull_4 : decode cX1_isFull 4 = .ok (.bipush 12, 2) := by decide +kernel
theorem dX1_isFull_6 : decode cX1_isFull 6 = .ok (.if_icmp .lt 7, 3) := by decide +kernel
theorem dX1_isFull_9 : decode cX1_isFull 9 = .ok (.iconst 1, 1) := by decide +kernel
theorem dX1_isFull_10 : decode cX1_isFull 10 = .ok (.goto 4, 3) := by decide +kernel
theorem dX1_isFull_13 : decode cX1_isFull 13 = .ok (.iconst 0, 1) := by decide +kernel
theorem dX1_isFull_14 : decode cX1_isFull 14 = .ok (.ireturn, 1) := by decide +kernel
theorem dX1_has_0 : decode cX1_has 0 = .ok (.iload_n 1, 1) := by decide +kernel
theorem dX1_has_1 : decode cX1_has 1 = .ok (.ifCond .lt 15, 3) := by decide +kernel
theorem dX1_has_4 : decode cX1_has 4 = .ok (.iload_n 1, 1) := by decide +kernel
theorem dX1_has_5 : decode cX1_has 5 = .ok (.aload_n 0, 1) := by decide +kernel
theorem dX1_has_6 : decode cX1_has 6 = .ok (.getfield 25, 3) := by decide +kernel
theorem dX1_has_9 : decode cX1_has 9 = .ok (.if_icmp .ge 7, 3) := by decide +kernel
theorem dX1_has_12 : decode cX1_has 12 = .ok (.iconst 1, 1) := by decide +kernel
theorem dX1_has_13 : decode cX1_has 13 = .ok (.goto 4, 3) := by decide +kernel
theorem dX1_has_16 : decode cX1_has 16 = .ok (.iconst 0, 1) := by decide +kernel
theorem dX1_has_17 : decode cX1_has 17 = .ok (.ireturn, 1) := by decide +kernel
theorem dX1_hasRow_0 : decode cX1_hasRow 0 = .ok (.iload_n 1, 1) := by decide +kernel
theorem dX1_hasRow_1 : decode cX1_hasRow 1 = .ok (.ifCond .lt 15, 3) := by decide +kernel
theorem dX1_hasRow_4 : decode cX1_hasRow 4 = .ok (.iload_n 1, 1) := by decide +kernel
theorem dX1_hasRow_5 : decode cX1_hasRow 5 = .ok (.aload_n 0, 1) := by decide +kernel
theorem dX1_hasRow_6 : decode cX1_hasRow 6 = .ok (.getfield 22, 3) := by decide +kernel
theorem dX1_hasRow_9 : decode cX1_hasRow 9 = .ok (.if_icmp .ge 7, 3) := by decide +kernel
theorem dX1_hasRow_12 : decode cX1_hasRow 12 = .ok (.iconst 1, 1) := by decide +kernel
theorem dX1_hasRow_13 : decode cX1_hasRow 13 = .ok (.goto 4, 3) := by decide +kernel
theorem dX1_hasRow_16 : decode cX1_hasRow 16 = .ok (.iconst 0, 1) := by decide +kernel
theorem dX1_hasRow_17 : decode cX1_hasRow 17 = .ok (.ireturn, 1) := by decide +kernel
set_option maxRecDepth 100000 in
theorem ggX1_hasCell_X1_hasRow : GoodIn wsX1_hasCell wsX1_hasRow := goodIn_r _ [6, 7, 8, 9, 10, 11, 12, 13] rfl (by decide +kernel)
set_option maxRecDepth 100000 in
theorem gX1_hasCell_X1_hasRow : GoodIn wsX1_hasCell (wsV RX1 37 RX1 yX1_hasRow wsX1_hasRow) := goodIn_app (goodIn_of _ (by decide +kernel)) ggX1_hasCell_X1_hasRow
theorem dX1_hasCell_0 : decode cX1_hasCell 0 = .ok (.iload_n 1, 1) := by decide +kernel
theorem dX1_hasCell_1 : decode cX1_hasCell 1 = .ok (.ifCond .lt 23, 3) := by decide +kernel
theorem dX1_hasCell_4 : decode cX1_hasCell 4 = .ok (.iload_n 1, 1) := by decide +kernel
theorem dX1_hasCell_5 : decode cX1_hasCell 5 = .ok (.aload_n 0, 1) := by decide +kernel
theorem dX1_hasCell_6 : decode cX1_hasCell 6 = .ok (.getfield 18, 3) := by decide +kernel
theorem dX1_hasCell_9 : decode cX1_hasCell 9 = .ok (.if_icmp .ge 15, 3) := by decide +kernel
theorem dX1_hasCell_12 : decode cX1_hasCell 12 = .ok (.aload_n 0, 1) := by decide +kernel
theorem dX1_hasCell_13 : decode cX1_hasCell 13 = .ok (.iload_n 2, 1) := by decide +kernel
theorem dX1_hasCell_14 : decode cX1_hasCell 14 = .ok (.invokevirtual 37, 3) := by decide +kernel
theorem dX1_hasCell_17 : decode cX1_hasCell 17 = .ok (.ifCond .eq 7, 3) := by decide +kernel
theorem dX1_hasCell_20 : decode cX1_hasCell 20 = .ok (.iconst 1, 1) := by decide +kernel
theorem dX1_hasCell_21 : decode cX1_hasCell 21 = .ok (.goto 4, 3) := by decide +kernel
theorem dX1_hasCell_24 : decode cX1_hasCell 24 = .ok (.iconst 0, 1) := by decide +kernel
theorem dX1_hasCell_25 : decode cX1_hasCell 25 = .ok (.ireturn, 1) := by decide +kernel
theorem dX1_get_0 : decode cX1_get 0 = .ok (.iload_n 1, 1) := by decide +kernel
theorem dX1_get_1 : decode cX1_get 1 = .ok (.bipush 6, 2) := by decide +kernel
theorem dX1_get_3 : decode cX1_get 3 = .ok (.imul, 1) := by decide +kernel
theorem dX1_get_4 : decode cX1_get 4 = .ok (.iload_n 2, 1) := by decide +kernel
theorem dX1_get_5 : decode cX1_get 5 = .ok (.iadd, 1) := by decide +kernel
theorem dX1_get_6 : decode cX1_get 6 = .ok (.istore_n 3, 1) := by decide +kernel
theorem dX1_get_7 : decode cX1_get 7 = .ok (.iload_n 3, 1) := by decide +kernel
theorem dX1_get_8 : decode cX1_get 8 = .ok (.ifCond .lt 21, 3) := by decide +kernel
theorem dX1_get_11 : decode cX1_get 11 = .ok (.iload_n 3, 1) := by decide +kernel
theorem dX1_get_12 : decode cX1_get 12 = .ok (.aload_n 0, 1) := by decide +kernel
theorem dX1_get_13 : decode cX1_get 13 = .ok (.getfield 9, 3) := by decide +kernel
theorem dX1_get_16 : decode cX1_get 16 = .ok (.arraylength, 1) := by decide +kernel
theorem dX1_get_17 : decode cX1_get 17 = .ok (.if_icmp .ge 12, 3) := by decide +kernel
theorem dX1_get_20 : decode cX1_get 20 = .ok (.aload_n 0, 1) := by decide +kernel
theorem dX1_get_21 : decode cX1_get 21 = .ok (.getfield 9, 3) := by decide +kernel
theorem dX1_get_24 : decode cX1_get 24 = .ok (.iload_n 3, 1) := by decide +kernel
theorem dX1_get_25 : decode cX1_get 25 = .ok (.iaload, 1) := by decide +kernel
theorem dX1_get_26 : decode cX1_get 26 = .ok (.goto 4, 3) := by decide +kernel
theorem dX1_get_29 : decode cX1_get 29 = .ok (.iconst 0, 1) := by decide +kernel
theorem dX1_get_30 : decode cX1_get 30 = .ok (.ireturn, 1) := by decide +kernel
set_option maxRecDepth 100000 in
theorem ggX1_set_X7_put : GoodIn wsX1_set wsX7_put := goodIn_r _ [4] rfl (by decide +kernel)
set_option maxRecDepth 100000 in
theorem gX1_set_X7_put_n41 : GoodIn wsX1_set (wsX7_put) := ggX1_set_X7_put
theorem dX1_set_0 : decode cX1_set 0 = .ok (.aload_n 0, 1) := by decide +kernel
theorem dX1_set_1 : decode cX1_set 1 = .ok (.getfield 9, 3) := by decide +kernel
theorem dX1_set_4 : decode cX1_set 4 = .ok (.iload_n 1, 1) := by decide +kernel
theorem dX1_set_5 : decode cX1_set 5 = .ok (.bipush 6, 2) := by decide +kernel
theorem dX1_set_7 : decode cX1_set 7 = .ok (.imul, 1) := by decide +kernel
theorem dX1_set_8 : decode cX1_set 8 = .ok (.iload_n 2, 1) := by decide +kernel
theorem dX1_set_9 : decode cX1_set 9 = .ok (.iadd, 1) := by decide +kernel
theorem dX1_set_10 : decode cX1_set 10 = .ok (.iload_n 3, 1) := by decide +kernel
theorem dX1_set_11 : decode cX1_set 11 = .ok (.invokestatic 41, 3) := by decide +kernel
theorem dX1_set_14 : decode cX1_set 14 = .ok (.return_, 1) := by decide +kernel
set_option maxRecDepth 100000 in
theorem ggX1_pieceIn_X7_at : GoodIn wsX1_pieceIn wsX7_at := goodIn_r _ [4] rfl (by decide +kernel)
set_option maxRecDepth 100000 in
theorem gX1_pieceIn_X7_at_n45 : GoodIn wsX1_pieceIn (wsX7_at) := ggX1_pieceIn_X7_at
theorem dX1_pieceIn_0 : decode cX1_pieceIn 0 = .ok (.aload_n 0, 1) := by decide +kernel
theorem dX1_pieceIn_1 : decode cX1_pieceIn 1 = .ok (.getfield 15, 3) := by decide +kernel
theorem dX1_pieceIn_4 : decode cX1_pieceIn 4 = .ok (.iload_n 1, 1) := by decide +kernel
theorem dX1_pieceIn_5 : decode cX1_pieceIn 5 = .ok (.invokestatic 45, 3) := by decide +kernel
theorem dX1_pieceIn_8 : decode cX1_pieceIn 8 = .ok (.ireturn, 1) := by decide +kernel
set_option maxRecDepth 100000 in
theorem ggX1_layerOf_X7_at : GoodIn wsX1_layerOf wsX7_at := goodIn_r _ [5] rfl (by decide +kernel)
set_option maxRecDepth 100000 in
theorem gX1_layerOf_X7_at_n45 : GoodIn wsX1_layerOf (wsX7_at) := ggX1_layerOf_X7_at
theorem dX1_layerOf_0 : decode cX1_layerOf 0 = .ok (.iconst 0, 1) := by decide +kernel
theorem dX1_layerOf_1 : decode cX1_layerOf 1 = .ok (.istore_n 2, 1) := by decide +kernel
theorem dX1_layerOf_2 : decode cX1_layerOf 2 = .ok (.iload_n 2, 1) := by decide +kernel
theorem dX1_layerOf_3 : decode cX1_layerOf 3 = .ok (.aload_n 0, 1) := by decide +kernel
theorem dX1_layerOf_4 : decode cX1_layerOf 4 = .ok (.getfield 25, 3) := by decide +kernel
theorem dX1_layerOf_7 : decode cX1_layerOf 7 = .ok (.if_icmp .ge 23, 3) := by decide +kernel
theorem dX1_layerOf_10 : decode cX1_layerOf 10 = .ok (.aload_n 0, 1) := by decide +kernel
theorem dX1_layerOf_11 : decode cX1_layerOf 11 = .ok (.getfield 15, 3) := by decide +kernel
theorem dX1_layerOf_14 : decode cX1_layerOf 14 = .ok (.iload_n 2, 1) := by decide +kernel
theorem dX1_layerOf_15 : decode cX1_layerOf 15 = .ok (.invokestatic 45, 3) := by decide +kernel
theorem dX1_layerOf_18 : decode cX1_layerOf 18 = .ok (.iload_n 1, 1) := by decide +kernel
theorem dX1_layerOf_19 : decode cX1_layerOf 19 = .ok (.if_icmp .ne 5, 3) := by decide +kernel
theorem dX1_layerOf_22 : decode cX1_layerOf 22 = .ok (.iload_n 2, 1) := by decide +kernel
theorem dX1_layerOf_23 : decode cX1_layerOf 23 = .ok (.ireturn, 1) := by decide +kernel
theorem dX1_layerOf_24 : decode cX1_layerOf 24 = .ok (.iinc 2 1, 3) := by decide +kernel
theorem dX1_layerOf_27 : decode cX1_layerOf 27 = .ok (.goto (-25), 3) := by decide +kernel
theorem dX1_layerOf_30 : decode cX1_layerOf 30 = .ok (.bipush (-109), 2) := by decide +kernel
theorem dX1_layerOf_32 : decode cX1_layerOf 32 = .ok (.ireturn, 1) := by decide +kernel
theorem dX1_resize_0 : decode cX1_resize 0 = .ok (.aload_n 0, 1) := by decide +kernel
theorem dX1_resize_1 : decode cX1_resize 1 = .ok (.iload_n 1, 1) := by decide +kernel
theorem dX1_resize_2 : decode cX1_resize 2 = .ok (.putfield 18, 3) := by decide +kernel
theorem dX1_resize_5 : decode cX1_resize 5 = .ok (.aload_n 0, 1) := by decide +kernel
theorem dX1_resize_6 : decode cX1_resize 6 = .ok (.iload_n 2, 1) := by decide +kernel
theorem dX1_resize_7 : decode cX1_resize 7 = .ok (.putfield 22, 3) := by decide +kernel
theorem dX1_resize_10 : decode cX1_resize 10 = .ok (.return_, 1) := by decide +kernel
set_option maxRecDepth 100000 in
theorem ggX1_addBlank_X1_set : GoodIn wsX1_addBlank wsX1_set := goodIn_r _ [7, 8, 9, 10, 11, 12, 13, 14, 15, 16, 17] rfl (by decide +kernel)
set_option maxRecDepth 100000 in
theorem gX1_addBlank_X1_set : GoodIn wsX1_addBlank (wsV RX1 49 RX1 yX1_set wsX1_set) := goodIn_app (goodIn_of _ (by decide +kernel)) ggX1_addBlank_X1_set
set_option maxRecDepth 100000 in
theorem ggX1_addBlank_X7_put : GoodIn wsX1_addBlank wsX7_put := goodIn_r _ [11] rfl (by decide +kernel)
set_option maxRecDepth 100000 in
theorem gX1_addBlank_X7_put_n41 : GoodIn wsX1_addBlank (wsX7_put) := ggX1_addBlank_X7_put
theorem dX1_addBlank_0 : decode cX1_addBlank 0 = .ok (.aload_n 0, 1) := by decide +kernel
theorem dX1_addBlank_1 : decode cX1_addBlank 1 = .ok (.getfield 25, 3) := by decide +kernel
theorem dX1_addBlank_4 : decode cX1_addBlank 4 = .ok (.istore_n 1, 1) := by decide +kernel
theorem dX1_addBlank_5 : decode cX1_addBlank 5 = .ok (.iconst 0, 1) := by decide +kernel
theorem dX1_addBlank_6 : decode cX1_addBlank 6 = .ok (.istore_n 2, 1) := by decide +kernel
theorem dX1_addBlank_7 : decode cX1_addBlank 7 = .ok (.iload_n 2, 1) := by decide +kernel
theorem dX1_addBlank_8 : decode cX1_addBlank 8 = .ok (.bipush 6, 2) := by decide +kernel
theorem dX1_addBlank_10 : decode cX1_addBlank 10 = .ok (.if_icmp .ge 16, 3) := by decide +kernel
theorem dX1_addBlank_13 : decode cX1_addBlank 13 = .ok (.aload_n 0, 1) := by decide +kernel
theorem dX1_addBlank_14 : decode cX1_addBlank 14 = .ok (.iload_n 1, 1) := by decide +kernel
theorem dX1_addBlank_15 : decode cX1_addBlank 15 = .ok (.iload_n 2, 1) := by decide +kernel
theorem dX1_addBlank_16 : decode cX1_addBlank 16 = .ok (.iconst 0, 1) := by decide +kernel
theorem dX1_addBlank_17 : decode cX1_addBlank 17 = .ok (.invokevirtual 49, 3) := by decide +kernel
theorem dX1_addBlank_20 : decode cX1_addBlank 20 = .ok (.iinc 2 1, 3) := by decide +kernel
theorem dX1_addBlank_23 : decode cX1_addBlank 23 = .ok (.goto (-16), 3) := by decide +kernel
theorem dX1_addBlank_26 : decode cX1_addBlank 26 = .ok (.aload_n 0, 1) := by decide +kernel
theorem dX1_addBlank_27 : decode cX1_addBlank 27 = .ok (.getfield 15, 3) := by decide +kernel
theorem dX1_addBlank_30 : decode cX1_addBlank 30 = .ok (.iload_n 1, 1) := by decide +kernel
theorem dX1_addBlank_31 : decode cX1_addBlank 31 = .ok (.iload_n 1, 1) := by decide +kernel
theorem dX1_addBlank_32 : decode cX1_addBlank 32 = .ok (.invokestatic 41, 3) := by decide +kernel
theorem dX1_addBlank_35 : decode cX1_addBlank 35 = .ok (.aload_n 0, 1) := by decide +kernel
theorem dX1_addBlank_36 : decode cX1_addBlank 36 = .ok (.dup, 1) := by decide +kernel
theorem dX1_addBlank_37 : decode cX1_addBlank 37 = .ok (.getfield 25, 3) := by decide +kernel
theorem dX1_addBlank_40 : decode cX1_addBlank 40 = .ok (.iconst 1, 1) := by decide +kernel
theorem dX1_addBlank_41 : decode cX1_addBlank 41 = .ok (.iadd, 1) := by decide +kernel
theorem dX1_addBlank_42 : decode cX1_addBlank 42 = .ok (.putfield 25, 3) := by decide +kernel
theorem dX1_addBlank_45 : decode cX1_addBlank 45 = .ok (.iload_n 1, 1) := by decide +kernel
theorem dX1_addBlank_46 : decode cX1_addBlank 46 = .ok (.ireturn, 1) := by decide +kernel
set_option maxRecDepth 100000 in
theorem ggX1_remove_X1_putIntoLayer : GoodIn wsX1_remove wsX1_putIntoLayer := goodIn_r _ [8, 2, 9, 10, 11, 7, 12, 1, 13, 14, 15, 16, 17, 18, 19, 20, 21, 22, 23] rfl (by decide +kernel)
set_option maxRecDepth 100000 in
theorem gX1_remove_X1_putIntoLayer : GoodIn wsX1_remove (wsV RX1 53 RX1 yX1_putIntoLayer wsX1_putIntoLayer) := goodIn_app (goodIn_of _ (by decide +kernel)) ggX1_remove_X1_putIntoLayer
set_option maxRecDepth 100000 in
theorem ggX1_remove_X7_at : GoodIn wsX1_remove wsX7_at := goodIn_r _ [15] rfl (by decide +kernel)
set_option maxRecDepth 100000 in
theorem gX1_remove_X7_at_n45 : GoodIn wsX1_remove (wsX7_at) := ggX1_remove_X7_at
set_option maxRecDepth 100000 in
theorem ggX1_remove_X7_put : GoodIn wsX1_remove wsX7_put := goodIn_r _ [17] rfl (by decide +kernel)
set_option maxRecDepth 100000 in
theorem gX1_remove_X7_put_n41 : GoodIn wsX1_remove (wsX7_put) := ggX1_remove_X7_put
theorem dX1_remove_0 : decode cX1_remove 0 = .ok (.aload_n 0, 1) := by decide +kernel
theorem dX1_remove_1 : decode cX1_remove 1 = .ok (.iload_n 1, 1) := by decide +kernel
theorem dX1_remove_2 : decode cX1_remove 2 = .ok (.aload_n 0, 1) := by decide +kernel
theorem dX1_remove_3 : decode cX1_remove 3 = .ok (.getfield 25, 3) := by decide +kernel
theorem dX1_remove_6 : decode cX1_remove 6 = .ok (.iconst 1, 1) := by decide +kernel
theorem dX1_remove_7 : decode cX1_remove 7 = .ok (.isub, 1) := by decide +kernel
theorem dX1_remove_8 : decode cX1_remove 8 = .ok (.invokevirtual 53, 3) := by decide +kernel
theorem dX1_remove_11 : decode cX1_remove 11 = .ok (.pop, 1) := by decide +kernel
theorem dX1_remove_12 : decode cX1_remove 12 = .ok (.aload_n 0, 1) := by decide +kernel
theorem dX1_remove_13 : decode cX1_remove 13 = .ok (.dup, 1) := by decide +kernel
theorem dX1_remove_14 : decode cX1_remove 14 = .ok (.getfield 25, 3) := by decide +kernel
theorem dX1_remove_17 : decode cX1_remove 17 = .ok (.iconst 1, 1) := by decide +kernel
theorem dX1_remove_18 : decode cX1_remove 18 = .ok (.isub, 1) := by decide +kernel
theorem dX1_remove_19 : decode cX1_remove 19 = .ok (.putfield 25, 3) := by decide +kernel
theorem dX1_remove_22 : decode cX1_remove 22 = .ok (.iconst 0, 1) := by decide +kernel
theorem dX1_remove_23 : decode cX1_remove 23 = .ok (.istore_n 2, 1) := by decide +kernel
theorem dX1_remove_24 : decode cX1_remove 24 = .ok (.iload_n 2, 1) := by decide +kernel
theorem dX1_remove_25 : decode cX1_remove 25 = .ok (.aload_n 0, 1) := by decide +kernel
theorem dX1_remove_26 : decode cX1_remove 26 = .ok (.getfield 25, 3) := by decide +kernel
theorem dX1_remove_29 : decode cX1_remove 29 = .ok (.if_icmp .ge 38, 3) := by decide +kernel
theorem dX1_remove_32 : decode cX1_remove 32 = .ok (.aload_n 0, 1) := by decide +kernel
theorem dX1_remove_33 : decode cX1_remove 33 = .ok (.getfield 15, 3) := by decide +kernel
theorem dX1_remove_36 : decode cX1_remove 36 = .ok (.iload_n 2, 1) := by decide +kernel
theorem dX1_remove_37 : decode cX1_remove 37 = .ok (.invokestatic 45, 3) := by decide +kernel
theorem dX1_remove_40 : decode cX1_remove 40 = .ok (.istore_n 3, 1) := by decide +kernel
theorem dX1_remove_41 : decode cX1_remove 41 = .ok (.aload_n 0, 1) := by decide +kernel
theorem dX1_remove_42 : decode cX1_remove 42 = .ok (.getfield 15, 3) := by decide +kernel
theorem dX1_remove_45 : decode cX1_remove 45 = .ok (.iload_n 2, 1) := by decide +kernel
theorem dX1_remove_46 : decode cX1_remove 46 = .ok (.iload_n 3, 1) := by decide +kernel
theorem dX1_remove_47 : decode cX1_remove 47 = .ok (.iload_n 1, 1) := by decide +kernel
theorem dX1_remove_48 : decode cX1_remove 48 = .ok (.if_icmp .le 9, 3) := by decide +kernel
theorem dX1_remove_51 : decode cX1_remove 51 = .ok (.iload_n 3, 1) := by decide +kernel
theorem dX1_remove_52 : decode cX1_remove 52 = .ok (.iconst 1, 1) := by decide +kernel
theorem dX1_remove_53 : decode cX1_remove 53 = .ok (.isub, 1) := by decide +kernel
theorem dX1_remove_54 : decode cX1_remove 54 = .ok (.goto 4, 3) := by decide +kernel
theorem dX1_remove_57 : decode cX1_remove 57 = .ok (.iload_n 3, 1) := by decide +kernel
theorem dX1_remove_58 : decode cX1_remove 58 = .ok (.invokestatic 41, 3) := by decide +kernel
theorem dX1_remove_61 : decode cX1_remove 61 = .ok (.iinc 2 1, 3) := by decide +kernel
theorem dX1_remove_64 : decode cX1_remove 64 = .ok (.goto (-40), 3) := by decide +kernel
theorem dX1_remove_67 : decode cX1_remove 67 = .ok (.iload_n 1, 1) := by decide +kernel
theorem dX1_remove_68 : decode cX1_remove 68 = .ok (.bipush 6, 2) := by decide +kernel
theorem dX1_remove_70 : decode cX1_remove 70 = .ok (.imul, 1) := by decide +kernel
theorem dX1_remove_71 : decode cX1_remove 71 = .ok (.istore_n 2, 1) := by decide +kernel
theorem dX1_remove_72 : decode cX1_remove 72 = .ok (.iload_n 2, 1) := by decide +kernel
theorem dX1_remove_73 : decode cX1_remove 73 = .ok (.aload_n 0, 1) := by decide +kernel
theorem dX1_remove_74 : decode cX1_remove 74 = .ok (.getfield 25, 3) := by decide +kernel
theorem dX1_remove_77 : decode cX1_remove 77 = .ok (.bipush 6, 2) := by decide +kernel
theorem dX1_remove_79 : decode cX1_remove 79 = .ok (.imul, 1) := by decide +kernel
theorem dX1_remove_80 : decode cX1_remove 80 = .ok (.if_icmp .ge 28, 3) := by decide +kernel
theorem dX1_remove_83 : decode cX1_remove 83 = .ok (.aload_n 0, 1) := by decide +kernel
theorem dX1_remove_84 : decode cX1_remove 84 = .ok (.getfield 9, 3) := by decide +kernel
theorem dX1_remove_87 : decode cX1_remove 87 = .ok (.iload_n 2, 1) := by decide +kernel
theorem dX1_remove_88 : decode cX1_remove 88 = .ok (.aload_n 0, 1) := by decide +kernel
theorem dX1_remove_89 : decode cX1_remove 89 = .ok (.getfield 9, 3) := by decide +kernel
theorem dX1_remove_92 : decode cX1_remove 92 = .ok (.iload_n 2, 1) := by decide +kernel
theorem dX1_remove_93 : decode cX1_remove 93 = .ok (.bipush 6, 2) := by decide +kernel
theorem dX1_remove_95 : decode cX1_remove 95 = .ok (.iadd, 1) := by decide +kernel
theorem dX1_remove_96 : decode cX1_remove 96 = .ok (.invokestatic 45, 3) := by decide +kernel
theorem dX1_remove_99 : decode cX1_remove 99 = .ok (.invokestatic 41, 3) := by decide +kernel
theorem dX1_remove_102 : decode cX1_remove 102 = .ok (.iinc 2 1, 3) := by decide +kernel
theorem dX1_remove_105 : decode cX1_remove 105 = .ok (.goto (-33), 3) := by decide +kernel
theorem dX1_remove_108 : decode cX1_remove 108 = .ok (.return_, 1) := by decide +kernel
set_option maxRecDepth 100000 in
theorem ggX1_putIntoLayer_X1_layerOf : GoodIn wsX1_putIntoLayer wsX1_layerOf := goodIn_r _ [6, 7, 1, 8, 9, 10, 13, 14, 15, 16, 17, 18] rfl (by decide +kernel)
set_option maxRecDepth 100000 in
theorem gX1_putIntoLayer_X1_layerOf : GoodIn wsX1_putIntoLayer (wsV RX1 57 RX1 yX1_layerOf wsX1_layerOf) := goodIn_app (goodIn_of _ (by decide +kernel)) ggX1_putIntoLayer_X1_layerOf
set_option maxRecDepth 100000 in
theorem ggX1_putIntoLayer_X7_at : GoodIn wsX1_putIntoLayer wsX7_at := goodIn_r _ [10] rfl (by decide +kernel)
set_option maxRecDepth 100000 in
theorem gX1_putIntoLayer_X7_at_n45 : GoodIn wsX1_putIntoLayer (wsX7_at) := ggX1_putIntoLayer_X7_at
set_option maxRecDepth 100000 in
theorem ggX1_putIntoLayer_X7_put : GoodIn wsX1_putIntoLayer wsX7_put := goodIn_r _ [12] rfl (by decide +kernel)
set_option maxRecDepth 100000 in
theorem gX1_putIntoLayer_X7_put_n41 : GoodIn wsX1_putIntoLayer (wsX7_put) := ggX1_putIntoLayer_X7_put
theorem dX1_putIntoLayer_0 : decode cX1_putIntoLayer 0 = .ok (.aload_n 0, 1) := by decide +kernel
theorem dX1_putIntoLayer_1 : decode cX1_putIntoLayer 1 = .ok (.iload_n 1, 1) := by decide +kernel
theorem dX1_putIntoLayer_2 : decode cX1_putIntoLayer 2 = .ok (.invokevirtual 57, 3) := by decide +kernel
theorem dX1_putIntoLayer_5 : decode cX1_putIntoLayer 5 = .ok (.istore_n 3, 1) := by decide +kernel
theorem dX1_putIntoLayer_6 : decode cX1_putIntoLayer 6 = .ok (.iload_n 3, 1) := by decide +kernel
theorem dX1_putIntoLayer_7 : decode cX1_putIntoLayer 7 = .ok (.istore 4, 2) := by decide +kernel
theorem dX1_putIntoLayer_9 : decode cX1_putIntoLayer 9 = .ok (.iload 4, 2) := by decide +kernel
theorem dX1_putIntoLayer_11 : decode cX1_putIntoLayer 11 = .ok (.iload_n 2, 1) := by decide +kernel
theorem dX1_putIntoLayer_12 : decode cX1_putIntoLayer 12 = .ok (.if_icmp .ge 29, 3) := by decide +kernel
theorem dX1_putIntoLayer_15 : decode cX1_putIntoLayer 15 = .ok (.aload_n 0, 1) := by decide +kernel
theorem dX1_putIntoLayer_16 : decode cX1_putIntoLayer 16 = .ok (.getfield 15, 3) := by decide +kernel
theorem dX1_putIntoLayer_19 : decode cX1_putIntoLayer 19 = .ok (.iload 4, 2) := by decide +kernel
theorem dX1_putIntoLayer_21 : decode cX1_putIntoLayer 21 = .ok (.aload_n 0, 1) := by decide +kernel
theorem dX1_putIntoLayer_22 : decode cX1_putIntoLayer 22 = .ok (.getfield 15, 3) := by decide +kernel
theorem dX1_putIntoLayer_25 : decode cX1_putIntoLayer 25 = .ok (.iload 4, 2) := by decide +kernel
theorem dX1_putIntoLayer_27 : decode cX1_putIntoLayer 27 = .ok (.iconst 1, 1) := by decide +kernel
theorem dX1_putIntoLayer_28 : decode cX1_putIntoLayer 28 = .ok (.iadd, 1) := by decide +kernel
theorem dX1_putIntoLayer_29 : decode cX1_putIntoLayer 29 = .ok (.invokestatic 45, 3) := by decide +kernel
theorem dX1_putIntoLayer_32 : decode cX1_putIntoLayer 32 = .ok (.invokestatic 41, 3) := by decide +kernel
theorem dX1_putIntoLayer_35 : decode cX1_putIntoLayer 35 = .ok (.iinc 4 1, 3) := by decide +kernel
theorem dX1_putIntoLayer_38 : decode cX1_putIntoLayer 38 = .ok (.goto (-29), 3) := by decide +kernel
theorem dX1_putIntoLayer_41 : decode cX1_putIntoLayer 41 = .ok (.iload_n 3, 1) := by decide +kernel
theorem dX1_putIntoLayer_42 : decode cX1_putIntoLayer 42 = .ok (.istore 4, 2) := by decide +kernel
theorem dX1_putIntoLayer_44 : decode cX1_putIntoLayer 44 = .ok (.iload 4, 2) := by decide +kernel
theorem dX1_putIntoLayer_46 : decode cX1_putIntoLayer 46 = .ok (.iload_n 2, 1) := by decide +kernel
theorem dX1_putIntoLayer_47 : decode cX1_putIntoLayer 47 = .ok (.if_icmp .le 29, 3) := by decide +kernel
theorem dX1_putIntoLayer_50 : decode cX1_putIntoLayer 50 = .ok (.aload_n 0, 1) := by decide +kernel
theorem dX1_putIntoLayer_51 : decode cX1_putIntoLayer 51 = .ok (.getfield 15, 3) := by decide +kernel
theorem dX1_putIntoLayer_54 : decode cX1_putIntoLayer 54 = .ok (.iload 4, 2) := by decide +kernel
theorem dX1_putIntoLayer_56 : decode cX1_putIntoLayer 56 = .ok (.aload_n 0, 1) := by decide +kernel
theorem dX1_putIntoLayer_57 : decode cX1_putIntoLayer 57 = .ok (.getfield 15, 3) := by decide +kernel
theorem dX1_putIntoLayer_60 : decode cX1_putIntoLayer 60 = .ok (.iload 4, 2) := by decide +kernel
theorem dX1_putIntoLayer_62 : decode cX1_putIntoLayer 62 = .ok (.iconst 1, 1) := by decide +kernel
theorem dX1_putIntoLayer_63 : decode cX1_putIntoLayer 63 = .ok (.isub, 1) := by decide +kernel
theorem dX1_putIntoLayer_64 : decode cX1_putIntoLayer 64 = .ok (.invokestatic 45, 3) := by decide +kernel
theorem dX1_putIntoLayer_67 : decode cX1_putIntoLayer 67 = .ok (.invokestatic 41, 3) := by decide +kernel
theorem dX1_putIntoLayer_70 : decode cX1_putIntoLayer 70 = .ok (.iinc 4 (-1), 3) := by decide +kernel
theorem dX1_putIntoLayer_73 : decode cX1_putIntoLayer 73 = .ok (.goto (-29), 3) := by decide +kernel
theorem dX1_putIntoLayer_76 : decode cX1_putIntoLayer 76 = .ok (.aload_n 0, 1) := by decide +kernel
theorem dX1_putIntoLayer_77 : decode cX1_putIntoLayer 77 = .ok (.getfield 15, 3) := by decide +kernel
theorem dX1_putIntoLayer_80 : decode cX1_putIntoLayer 80 = .ok (.iload_n 2, 1) := by decide +kernel
theorem dX1_putIntoLayer_81 : decode cX1_putIntoLayer 81 = .ok (.iload_n 1, 1) := by decide +kernel
theorem dX1_putIntoLayer_82 : decode cX1_putIntoLayer 82 = .ok (.invokestatic 41, 3) := by decide +kernel
theorem dX1_putIntoLayer_85 : decode cX1_putIntoLayer 85 = .ok (.iload_n 3, 1) := by decide +kernel
theorem dX1_putIntoLayer_86 : decode cX1_putIntoLayer 86 = .ok (.ireturn, 1) := by decide +kernel
set_option maxRecDepth 100000 in
theorem ggX1_canMove_X1_get : GoodIn wsX1_canMove wsX1_get := goodIn_r _ [5, 6, 18, 19, 20, 21, 22, 23] rfl (by decide +kernel)
set_option maxRecDepth 100000 in
theorem gX1_canMove_X1_get : GoodIn wsX1_canMove (wsV RX1 61 RX1 yX1_get wsX1_get) := goodIn_app (goodIn_of _ (by decide +kernel)) ggX1_canMove_X1_get
set_option maxRecDepth 100000 in
theorem ggX1_canMove_X7_fits : GoodIn wsX1_canMove wsX7_fits := goodIn_r _ [9, 10, 11, 12, 13, 8, 14, 15, 16, 17] rfl (by decide +kernel)
set_option maxRecDepth 100000 in
theorem gX1_canMove_X7_fits_n64 : GoodIn wsX1_canMove (wsX7_fits) := ggX1_canMove_X7_fits
theorem dX1_canMove_0 : decode cX1_canMove 0 = .ok (.iconst 0, 1) := by decide +kernel
theorem dX1_canMove_1 : decode cX1_canMove 1 = .ok (.aload_n 0, 1) := by decide +kernel
theorem dX1_canMove_2 : decode cX1_canMove 2 = .ok (.iload_n 1, 1) := by decide +kernel
theorem dX1_canMove_3 : decode cX1_canMove 3 = .ok (.iconst 0, 1) := by decide +kernel
theorem dX1_canMove_4 : decode cX1_canMove 4 = .ok (.invokevirtual 61, 3) := by decide +kernel
theorem dX1_canMove_7 : decode cX1_canMove 7 = .ok (.iload_n 2, 1) := by decide +kernel
theorem dX1_canMove_8 : decode cX1_canMove 8 = .ok (.iadd, 1) := by decide +kernel
theorem dX1_canMove_9 : decode cX1_canMove 9 = .ok (.invokestatic 64, 3) := by decide +kernel
theorem dX1_canMove_12 : decode cX1_canMove 12 = .ok (.ifCond .eq 22, 3) := by decide +kernel
theorem dX1_canMove_15 : decode cX1_canMove 15 = .ok (.iconst 1, 1) := by decide +kernel
theorem dX1_canMove_16 : decode cX1_canMove 16 = .ok (.aload_n 0, 1) := by decide +kernel
theorem dX1_canMove_17 : decode cX1_canMove 17 = .ok (.iload_n 1, 1) := by decide +kernel
theorem dX1_canMove_18 : decode cX1_canMove 18 = .ok (.iconst 1, 1) := by decide +kernel
theorem dX1_canMove_19 : decode cX1_canMove 19 = .ok (.invokevirtual 61, 3) := by decide +kernel
theorem dX1_canMove_22 : decode cX1_canMove 22 = .ok (.iload_n 3, 1) := by decide +kernel
theorem dX1_canMove_23 : decode cX1_canMove 23 = .ok (.iadd, 1) := by decide +kernel
theorem dX1_canMove_24 : decode cX1_canMove 24 = .ok (.invokestatic 64, 3) := by decide +kernel
theorem dX1_canMove_27 : decode cX1_canMove 27 = .ok (.ifCond .eq 7, 3) := by decide +kernel
theorem dX1_canMove_30 : decode cX1_canMove 30 = .ok (.iconst 1, 1) := by decide +kernel
theorem dX1_canMove_31 : decode cX1_canMove 31 = .ok (.goto 4, 3) := by decide +kernel
theorem dX1_canMove_34 : decode cX1_canMove 34 = .ok (.iconst 0, 1) := by decide +kernel
theorem dX1_canMove_35 : decode cX1_canMove 35 = .ok (.ireturn, 1) := by decide +kernel
set_option maxRecDepth 100000 in
theorem ggX1_move_X1_get : GoodIn wsX1_move wsX1_get := goodIn_r _ [10, 11, 19, 20, 21, 22, 23, 24] rfl (by decide +kernel)
set_option maxRecDepth 100000 in
theorem gX1_move_X1_get : GoodIn wsX1_move (wsV RX1 61 RX1 yX1_get wsX1_get) := goodIn_app (goodIn_of _ (by decide +kernel)) ggX1_move_X1_get
set_option maxRecDepth 100000 in
theorem ggX1_move_X1_set : GoodIn wsX1_move wsX1_set := goodIn_r _ [15, 11, 16, 17, 18, 19, 20, 21, 22, 23, 24] rfl (by decide +kernel)
set_option maxRecDepth 100000 in
theorem gX1_move_X1_set : GoodIn wsX1_move (wsV RX1 49 RX1 yX1_set wsX1_set) := goodIn_app (goodIn_of _ (by decide +kernel)) ggX1_move_X1_set
theorem dX1_move_0 : decode cX1_move 0 = .ok (.iload_n 2, 1) := by decide +kernel
theorem dX1_move_1 : decode cX1_move 1 = .ok (.invokestatic 68, 3) := by decide +kernel
theorem dX1_move_4 : decode cX1_move 4 = .ok (.iload_n 3, 1) := by decide +kernel
theorem dX1_move_5 : decode cX1_move 5 = .ok (.invokestatic 68, 3) := by decide +kernel
theorem dX1_move_8 : decode cX1_move 8 = .ok (.iadd, 1) := by decide +kernel
theorem dX1_move_9 : decode cX1_move 9 = .ok (.istore 4, 2) := by decide +kernel
theorem dX1_move_11 : decode cX1_move 11 = .ok (.aload_n 0, 1) := by decide +kernel
theorem dX1_move_12 : decode cX1_move 12 = .ok (.iload_n 1, 1) := by decide +kernel
theorem dX1_move_13 : decode cX1_move 13 = .ok (.iconst 0, 1) := by decide +kernel
theorem dX1_move_14 : decode cX1_move 14 = .ok (.aload_n 0, 1) := by decide +kernel
theorem dX1_move_15 : decode cX1_move 15 = .ok (.iload_n 1, 1) := by decide +kernel
theorem dX1_move_16 : decode cX1_move 16 = .ok (.iconst 0, 1) := by decide +kernel
theorem dX1_move_17 : decode cX1_move 17 = .ok (.invokevirtual 61, 3) := by decide +kernel
theorem dX1_move_20 : decode cX1_move 20 = .ok (.iload_n 2, 1) := by decide +kernel
theorem dX1_move_21 : decode cX1_move 21 = .ok (.iadd, 1) := by decide +kernel
theorem dX1_move_22 : decode cX1_move 22 = .ok (.invokevirtual 49, 3) := by decide +kernel
theorem dX1_move_25 : decode cX1_move 25 = .ok (.aload_n 0, 1) := by decide +kernel
theorem dX1_move_26 : decode cX1_move 26 = .ok (.iload_n 1, 1) := by decide +kernel
theorem dX1_move_27 : decode cX1_move 27 = .ok (.iconst 1, 1) := by decide +kernel
theorem dX1_move_28 : decode cX1_move 28 = .ok (.aload_n 0, 1) := by decide +kernel
theorem dX1_move_29 : decode cX1_move 29 = .ok (.iload_n 1, 1) := by decide +kernel
theorem dX1_move_30 : decode cX1_move 30 = .ok (.iconst 1, 1) := by decide +kernel
theorem dX1_move_31 : decode cX1_move 31 = .ok (.invokevirtual 61, 3) := by decide +kernel
theorem dX1_move_34 : decode cX1_move 34 = .ok (.iload_n 3, 1) := by decide +kernel
theorem dX1_move_35 : decode cX1_move 35 = .ok (.iadd, 1) := by decide +kernel
theorem dX1_move_36 : decode cX1_move 36 = .ok (.invokevirtual 49, 3) := by decide +kernel
theorem dX1_move_39 : decode cX1_move 39 = .ok (.aload_n 0, 1) := by decide +kernel
theorem dX1_move_40 : decode cX1_move 40 = .ok (.dup, 1) := by decide +kernel
theorem dX1_move_41 : decode cX1_move 41 = .ok (.getfield 28, 3) := by decide +kernel
theorem dX1_move_44 : decode cX1_move 44 = .ok (.iload 4, 2) := by decide +kernel
theorem dX1_move_46 : decode cX1_move 46 = .ok (.iadd, 1) := by decide +kernel
theorem dX1_move_47 : decode cX1_move 47 = .ok (.putfield 28, 3) := by decide +kernel
theorem dX1_move_50 : decode cX1_move 50 = .ok (.iload 4, 2) := by decide +kernel
theorem dX1_move_52 : decode cX1_move 52 = .ok (.ireturn, 1) := by decide +kernel
theorem dX1_span_0 : decode cX1_span 0 = .ok (.iload_n 1, 1) := by decide +kernel
theorem dX1_span_1 : decode cX1_span 1 = .ok (.ifCond .le 7, 3) := by decide +kernel
theorem dX1_span_4 : decode cX1_span 4 = .ok (.iload_n 1, 1) := by decide +kernel
theorem dX1_span_5 : decode cX1_span 5 = .ok (.goto 4, 3) := by decide +kernel
theorem dX1_span_8 : decode cX1_span 8 = .ok (.iconst 0, 1) := by decide +kernel
theorem dX1_span_9 : decode cX1_span 9 = .ok (.istore_n 3, 1) := by decide +kernel
theorem dX1_span_10 : decode cX1_span 10 = .ok (.iload_n 1, 1) := by decide +kernel
theorem dX1_span_11 : decode cX1_span 11 = .ok (.iload_n 2, 1) := by decide +kernel
theorem dX1_span_12 : decode cX1_span 12 = .ok (.iadd, 1) := by decide +kernel
theorem dX1_span_13 : decode cX1_span 13 = .ok (.aload_n 0, 1) := by decide +kernel
theorem dX1_span_14 : decode cX1_span 14 = .ok (.getfield 18, 3) := by decide +kernel
theorem dX1_span_17 : decode cX1_span 17 = .ok (.if_icmp .ge 9, 3) := by decide +kernel
theorem dX1_span_20 : decode cX1_span 20 = .ok (.iload_n 1, 1) := by decide +kernel
theorem dX1_span_21 : decode cX1_span 21 = .ok (.iload_n 2, 1) := by decide +kernel
theorem dX1_span_22 : decode cX1_span 22 = .ok (.iadd, 1) := by decide +kernel
theorem dX1_span_23 : decode cX1_span 23 = .ok (.goto 7, 3) := by decide +kernel
theorem dX1_span_26 : decode cX1_span 26 = .ok (.aload_n 0, 1) := by decide +kernel
theorem dX1_span_27 : decode cX1_span 27 = .ok (.getfield 18, 3) := by decide +kernel
theorem dX1_span_30 : decode cX1_span 30 = .ok (.istore 4, 2) := by decide +kernel
theorem dX1_span_32 : decode cX1_span 32 = .ok (.iload_n 3, 1) := by decide +kernel
theorem dX1_span_33 : decode cX1_span 33 = .ok (.iload 4, 2) := by decide +kernel
theorem dX1_span_35 : decode cX1_span 35 = .ok (.if_icmp .ge 14, 3) := by decide +kernel
theorem dX1_span_38 : decode cX1_span 38 = .ok (.iconst 1, 1) := by decide +kernel
theorem dX1_span_39 : decode cX1_span 39 = .ok (.iload 4, 2) := by decide +kernel
theorem dX1_span_41 : decode cX1_span 41 = .ok (.ishl, 1) := by decide +kernel
theorem dX1_span_42 : decode cX1_span 42 = .ok (.iconst 1, 1) := by decide +kernel
theorem dX1_span_43 : decode cX1_span 43 = .ok (.iload_n 3, 1) := by decide +kernel
theorem dX1_span_44 : decode cX1_span 44 = .ok (.ishl, 1) := by decide +kernel
theorem dX1_span_45 : decode cX1_span 45 = .ok (.isub, 1) := by decide +kernel
theorem dX1_span_46 : decode cX1_span 46 = .ok (.goto 4, 3) := by decide +kernel
theorem dX1_span_49 : decode cX1_span 49 = .ok (.iconst 0, 1) := by decide +kernel
theorem dX1_span_50 : decode cX1_span 50 = .ok (.ireturn, 1) := by decide +kernel
set_option maxRecDepth 100000 in
theorem ggX1_coverRow_X1_get : GoodIn wsX1_coverRow wsX1_get := goodIn_r _ [5, 6, 17, 18, 19, 20, 21, 22] rfl (by decide +kernel)
set_option maxRecDepth 100000 in
theorem gX1_coverRow_X1_get : GoodIn wsX1_coverRow (wsV RX1 61 RX1 yX1_get wsX1_get) := goodIn_app (goodIn_of _ (by decide +kernel)) ggX1_coverRow_X1_get
set_option maxRecDepth 100000 in
theorem ggX1_coverRow_X1_hasRow : GoodIn wsX1_coverRow wsX1_hasRow := goodIn_r _ [10, 11, 17, 18, 19, 20, 21, 22] rfl (by decide +kernel)
set_option maxRecDepth 100000 in
theorem gX1_coverRow_X1_hasRow : GoodIn wsX1_coverRow (wsV RX1 37 RX1 yX1_hasRow wsX1_hasRow) := goodIn_app (goodIn_of _ (by decide +kernel)) ggX1_coverRow_X1_hasRow
set_option maxRecDepth 100000 in
theorem ggX1_coverRow_X1_span : GoodIn wsX1_coverRow wsX1_span := goodIn_r _ [15, 16, 17, 18, 19, 20, 21, 22] rfl (by decide +kernel)
set_option maxRecDepth 100000 in
theorem gX1_coverRow_X1_span : GoodIn wsX1_coverRow (wsV RX1 73 RX1 yX1_span wsX1_span) := goodIn_app (goodIn_of _ (by decide +kernel)) ggX1_coverRow_X1_span
theorem dX1_coverRow_0 : decode cX1_coverRow 0 = .ok (.iload_n 2, 1) := by decide +kernel
theorem dX1_coverRow_1 : decode cX1_coverRow 1 = .ok (.aload_n 0, 1) := by decide +kernel
theorem dX1_coverRow_2 : decode cX1_coverRow 2 = .ok (.iload_n 1, 1) := by decide +kernel
theorem dX1_coverRow_3 : decode cX1_coverRow 3 = .ok (.iconst 1, 1) := by decide +kernel
theorem dX1_coverRow_4 : decode cX1_coverRow 4 = .ok (.invokevirtual 61, 3) := by decide +kernel
theorem dX1_coverRow_7 : decode cX1_coverRow 7 = .ok (.isub, 1) := by decide +kernel
theorem dX1_coverRow_8 : decode cX1_coverRow 8 = .ok (.istore_n 3, 1) := by decide +kernel
theorem dX1_coverRow_9 : decode cX1_coverRow 9 = .ok (.aload_n 0, 1) := by decide +kernel
theorem dX1_coverRow_10 : decode cX1_coverRow 10 = .ok (.iload_n 2, 1) := by decide +kernel
theorem dX1_coverRow_11 : decode cX1_coverRow 11 = .ok (.invokevirtual 37, 3) := by decide +kernel
theorem dX1_coverRow_14 : decode cX1_coverRow 14 = .ok (.ifCond .eq 21, 3) := by decide +kernel
theorem dX1_coverRow_17 : decode cX1_coverRow 17 = .ok (.iload_n 3, 1) := by decide +kernel
theorem dX1_coverRow_18 : decode cX1_coverRow 18 = .ok (.ifCond .lt 17, 3) := by decide +kernel
theorem dX1_coverRow_21 : decode cX1_coverRow 21 = .ok (.iload_n 3, 1) := by decide +kernel
theorem dX1_coverRow_22 : decode cX1_coverRow 22 = .ok (.aload_n 0, 1) := by decide +kernel
theorem dX1_coverRow_23 : decode cX1_coverRow 23 = .ok (.iload_n 1, 1) := by decide +kernel
theorem dX1_coverRow_24 : decode cX1_coverRow 24 = .ok (.iconst 3, 1) := by decide +kernel
theorem dX1_coverRow_25 : decode cX1_coverRow 25 = .ok (.invokevirtual 61, 3) := by decide +kernel
theorem dX1_coverRow_28 : decode cX1_coverRow 28 = .ok (.if_icmp .ge 7, 3) := by decide +kernel
theorem dX1_coverRow_31 : decode cX1_coverRow 31 = .ok (.iconst 1, 1) := by decide +kernel
theorem dX1_coverRow_32 : decode cX1_coverRow 32 = .ok (.goto 4, 3) := by decide +kernel
theorem dX1_coverRow_35 : decode cX1_coverRow 35 = .ok (.iconst 0, 1) := by decide +kernel
theorem dX1_coverRow_36 : decode cX1_coverRow 36 = .ok (.istore 4, 2) := by decide +kernel
theorem dX1_coverRow_38 : decode cX1_coverRow 38 = .ok (.iload 4, 2) := by decide +kernel
theorem dX1_coverRow_40 : decode cX1_coverRow 40 = .ok (.ifCond .eq 22, 3) := by decide +kernel
theorem dX1_coverRow_43 : decode cX1_coverRow 43 = .ok (.aload_n 0, 1) := by decide +kernel
theorem dX1_coverRow_44 : decode cX1_coverRow 44 = .ok (.aload_n 0, 1) := by decide +kernel
theorem dX1_coverRow_45 : decode cX1_coverRow 45 = .ok (.iload_n 1, 1) := by decide +kernel
theorem dX1_coverRow_46 : decode cX1_coverRow 46 = .ok (.iconst 0, 1) := by decide +kernel
theorem dX1_coverRow_47 : decode cX1_coverRow 47 = .ok (.invokevirtual 61, 3) := by decide +kernel
theorem dX1_coverRow_50 : decode cX1_coverRow 50 = .ok (.aload_n 0, 1) := by decide +kernel
theorem dX1_coverRow_51 : decode cX1_coverRow 51 = .ok (.iload_n 1, 1) := by decide +kernel
theorem dX1_coverRow_52 : decode cX1_coverRow 52 = .ok (.iconst 2, 1) := by decide +kernel
theorem dX1_coverRow_53 : decode cX1_coverRow 53 = .ok (.invokevirtual 61, 3) := by decide +kernel
theorem dX1_coverRow_56 : decode cX1_coverRow 56 = .ok (.invokevirtual 73, 3) := by decide +kernel
theorem dX1_coverRow_59 : decode cX1_coverRow 59 = .ok (.goto 4, 3) := by decide +kernel
theorem dX1_coverRow_62 : decode cX1_coverRow 62 = .ok (.iconst 0, 1) := by decide +kernel
theorem dX1_coverRow_63 : decode cX1_coverRow 63 = .ok (.ireturn, 1) := by decide +kernel
set_option maxRecDepth 100000 in
theorem ggX1_coveringPiece_X7_at : GoodIn wsX1_coveringPiece wsX7_at := goodIn_r _ [5] rfl (by decide +kernel)
set_option maxRecDepth 100000 in
theorem gX1_coveringPiece_X7_at_n45 : GoodIn wsX1_coveringPiece (wsX7_at) := ggX1_coveringPiece_X7_at
set_option maxRecDepth 100000 in
theorem ggX1_coveringPiece_X1_coverRow : GoodIn wsX1_coveringPiece wsX1_coverRow := goodIn_r _ [10, 11, 12, 13, 9, 14, 15, 16, 17, 18, 19, 20, 21, 22, 23, 24, 25, 26, 27, 28, 29, 30, 31] rfl (by decide +kernel)
set_option maxRecDepth 100000 in
theorem gX1_coveringPiece_X1_coverRow : GoodIn wsX1_coveringPiece (wsV RX1 76 RX1 yX1_coverRow wsX1_coverRow) := goodIn_app (goodIn_of _ (by decide +kernel)) ggX1_coveringPiece_X1_coverRow
theorem dX1_coveringPiece_0 : decode cX1_coveringPiece 0 = .ok (.iload_n 3, 1) := by decide +kernel
theorem dX1_coveringPiece_1 : decode cX1_coveringPiece 1 = .ok (.istore 4, 2) := by decide +kernel
theorem dX1_coveringPiece_3 : decode cX1_coveringPiece 3 = .ok (.aload_n 0, 1) := by decide +kernel
theorem dX1_coveringPiece_4 : decode cX1_coveringPiece 4 = .ok (.getfield 25, 3) := by decide +kernel
theorem dX1_coveringPiece_7 : decode cX1_coveringPiece 7 = .ok (.iconst 1, 1) := by decide +kernel
theorem dX1_coveringPiece_8 : decode cX1_coveringPiece 8 = .ok (.isub, 1) := by decide +kernel
theorem dX1_coveringPiece_9 : decode cX1_coveringPiece 9 = .ok (.istore 5, 2) := by decide +kernel
theorem dX1_coveringPiece_11 : decode cX1_coveringPiece 11 = .ok (.iload 5, 2) := by decide +kernel
theorem dX1_coveringPiece_13 : decode cX1_coveringPiece 13 = .ok (.ifCond .lt 45, 3) := by decide +kernel
theorem dX1_coveringPiece_16 : decode cX1_coveringPiece 16 = .ok (.aload_n 0, 1) := by decide +kernel
theorem dX1_coveringPiece_17 : decode cX1_coveringPiece 17 = .ok (.getfield 15, 3) := by decide +kernel
theorem dX1_coveringPiece_20 : decode cX1_coveringPiece 20 = .ok (.iload 5, 2) := by decide +kernel
theorem dX1_coveringPiece_22 : decode cX1_coveringPiece 22 = .ok (.invokestatic 45, 3) := by decide +kernel
theorem dX1_coveringPiece_25 : decode cX1_coveringPiece 25 = .ok (.istore 6, 2) := by decide +kernel
theorem dX1_coveringPiece_27 : decode cX1_coveringPiece 27 = .ok (.aload_n 0, 1) := by decide +kernel
theorem dX1_coveringPiece_28 : decode cX1_coveringPiece 28 = .ok (.iload 6, 2) := by decide +kernel
theorem dX1_coveringPiece_30 : decode cX1_coveringPiece 30 = .ok (.iload_n 2, 1) := by decide +kernel
theorem dX1_coveringPiece_31 : decode cX1_coveringPiece 31 = .ok (.invokevirtual 76, 3) := by decide +kernel
theorem dX1_coveringPiece_34 : decode cX1_coveringPiece 34 = .ok (.iload_n 1, 1) := by decide +kernel
theorem dX1_coveringPiece_35 : decode cX1_coveringPiece 35 = .ok (.ishr, 1) := by decide +kernel
theorem dX1_coveringPiece_36 : decode cX1_coveringPiece 36 = .ok (.iconst 1, 1) := by decide +kernel
theorem dX1_coveringPiece_37 : decode cX1_coveringPiece 37 = .ok (.iand, 1) := by decide +kernel
theorem dX1_coveringPiece_38 : decode cX1_coveringPiece 38 = .ok (.ifCond .eq 14, 3) := by decide +kernel
theorem dX1_coveringPiece_41 : decode cX1_coveringPiece 41 = .ok (.iload 4, 2) := by decide +kernel
theorem dX1_coveringPiece_43 : decode cX1_coveringPiece 43 = .ok (.ifCond .ne 6, 3) := by decide +kernel
theorem dX1_coveringPiece_46 : decode cX1_coveringPiece 46 = .ok (.iload 6, 2) := by decide +kernel
theorem dX1_coveringPiece_48 : decode cX1_coveringPiece 48 = .ok (.ireturn, 1) := by decide +kernel
theorem dX1_coveringPiece_49 : decode cX1_coveringPiece 49 = .ok (.iinc 4 (-1), 3) := by decide +kernel
theorem dX1_coveringPiece_52 : decode cX1_coveringPiece 52 = .ok (.iinc 5 (-1), 3) := by decide +kernel
theorem dX1_coveringPiece_55 : decode cX1_coveringPiece 55 = .ok (.goto (-44), 3) := by decide +kernel
theorem dX1_coveringPiece_58 : decode cX1_coveringPiece 58 = .ok (.bipush (-109), 2) := by decide +kernel
theorem dX1_coveringPiece_60 : decode cX1_coveringPiece 60 = .ok (.ireturn, 1) := by decide +kernel
set_option maxRecDepth 100000 in
theorem ggX1_area_X1_get : GoodIn wsX1_area wsX1_get := goodIn_r _ [5, 6, 7, 8, 9, 10, 11, 12] rfl (by decide +kernel)
set_option maxRecDepth 100000 in
theorem gX1_area_X1_get : GoodIn wsX1_area (wsV RX1 61 RX1 yX1_get wsX1_get) := goodIn_app (goodIn_of _ (by decide +kernel)) ggX1_area_X1_get
theorem dX1_area_0 : decode cX1_area 0 = .ok (.aload_n 0, 1) := by decide +kernel
theorem dX1_area_1 : decode cX1_area 1 = .ok (.iload_n 1, 1) := by decide +kernel

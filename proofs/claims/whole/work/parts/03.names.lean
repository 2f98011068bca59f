def R_P : String := "SweepHand$Piece"
def R_S : String := "SweepHand"
def R_M : String := "SweepHandModel"
def R_L : String := "SweepHandLaw"
def F_P : u_T := fun k => match k with
  | 0 => ("SweepHand$Piece", "begin", "I", true)
  | 1 => ("SweepHand$Piece", "size", "I", false)
  | 2 => ("SweepHand$Piece", "used", "Z", false)
  | 3 => ("SweepHand$Piece", "marked", "Z", false)
  | 4 => ("SweepHand$Piece", "freedAt", "J", false)
  | _ => ("SweepHand$Piece", "next", "LSweepHand$Piece;", false)
def t_P : Nat → FieldType := fun k => match k with
  | 0 => .int
  | 1 => .int
  | 2 => .boolean
  | 3 => .boolean
  | 4 => .long
  | _ => .object "SweepHand$Piece"
theorem n_P : ∀ a, a < 6 → ∀ b, b < 6 → a ≠ b → (F_P a).2.1 ≠ (F_P b).2.1 := by decide +kernel
theorem t_P_ok : ∀ k, k < 6 → parseFieldDescriptor (F_P k).2.2.1 = some (t_P k) := by decide +kernel
def F_S : u_T := fun k => match k with
  | 0 => ("SweepHand", "cells", "I", false)
  | 1 => ("SweepHand", "first", "LSweepHand$Piece;", false)
  | 2 => ("SweepHand", "atHand", "LSweepHand$Piece;", false)
  | 3 => ("SweepHand", "freeings", "J", false)
  | 4 => ("SweepHand", "takesInVain", "I", false)
  | 5 => ("SweepHand", "sweptPieces", "I", false)
  | _ => ("SweepHand", "endedSweeps", "I", false)
def t_S : Nat → FieldType := fun k => match k with
  | 0 => .int
  | 1 => .object "SweepHand$Piece"
  | 2 => .object "SweepHand$Piece"
  | 3 => .long
  | 4 => .int
  | 5 => .int
  | _ => .int
theorem n_S : ∀ a, a < 7 → ∀ b, b < 7 → a ≠ b → (F_S a).2.1 ≠ (F_S b).2.1 := by decide +kernel
theorem t_S_ok : ∀ k, k < 7 → parseFieldDescriptor (F_S k).2.2.1 = some (t_S k) := by decide +kernel
def F_M : u_T := fun k => match k with
  | 0 => ("SweepHandModel", "thrown", "I", false)
  | 1 => ("SweepHandModel", "cells", "I", false)
  | 2 => ("SweepHandModel", "sizes", "[I", true)
  | 3 => ("SweepHandModel", "times", "[I", true)
  | 4 => ("SweepHandModel", "marks", "[Z", true)
  | 5 => ("SweepHandModel", "now", "I", false)
  | 6 => ("SweepHandModel", "failures", "I", false)
  | 7 => ("SweepHandModel", "swept", "I", false)
  | 8 => ("SweepHandModel", "sweeps", "I", false)
  | _ => ("SweepHandModel", "hand", "I", false)
def t_M : Nat → FieldType := fun k => match k with
  | 0 => .int
  | 1 => .int
  | 2 => .array .int
  | 3 => .array .int
  | 4 => .array .boolean
  | 5 => .int
  | 6 => .int
  | 7 => .int
  | 8 => .int
  | _ => .int
theorem n_M : ∀ a, a < 10 → ∀ b, b < 10 → a ≠ b → (F_M a).2.1 ≠ (F_M b).2.1 := by decide +kernel
theorem t_M_ok : ∀ k, k < 10 → parseFieldDescriptor (F_M k).2.2.1 = some (t_M k) := by decide +kernel
abbrev b_S_init : ByteArray := prog_1_method_1_code
def y_S_init : MethodName := ⟨R_S, "<init>", "()V"⟩
abbrev b_S_space : ByteArray := prog_1_method_2_code
def y_S_space : MethodName := ⟨R_S, "space", "(I)I"⟩
abbrev b_S_take : ByteArray := prog_1_method_3_code
def y_S_take : MethodName := ⟨R_S, "take", "(I)I"⟩
abbrev b_S_give : ByteArray := prog_1_method_4_code
def y_S_give : MethodName := ⟨R_S, "give", "(I)I"⟩
abbrev b_S_mark : ByteArray := prog_1_method_5_code
def y_S_mark : MethodName := ⟨R_S, "mark", "(I)Z"⟩
abbrev b_S_unmark : ByteArray := prog_1_method_6_code
def y_S_unmark : MethodName := ⟨R_S, "unmark", "()I"⟩
abbrev b_S_begin : ByteArray := prog_1_method_7_code
def y_S_begin : MethodName := ⟨R_S, "begin", "()V"⟩
abbrev b_S_sweep : ByteArray := prog_1_method_8_code
def y_S_sweep : MethodName := ⟨R_S, "sweep", "(I)I"⟩
abbrev b_S_hand : ByteArray := prog_1_method_9_code
def y_S_hand : MethodName := ⟨R_S, "hand", "()I"⟩
abbrev b_S_piece : ByteArray := prog_1_method_10_code
def y_S_piece : MethodName := ⟨R_S, "piece", "(I)I"⟩
abbrev b_S_marked : ByteArray := prog_1_method_11_code
def y_S_marked : MethodName := ⟨R_S, "marked", "(I)Z"⟩
abbrev b_S_count : ByteArray := prog_1_method_12_code
def y_S_count : MethodName := ⟨R_S, "count", "(I)I"⟩
abbrev b_S_faults : ByteArray := prog_1_method_13_code
def y_S_faults : MethodName := ⟨R_S, "faults", "()I"⟩
abbrev b_S_startAnew : ByteArray := prog_1_method_14_code
def y_S_startAnew : MethodName := ⟨R_S, "startAnew", "(I)V"⟩
abbrev b_S_comeToBeFree : ByteArray := prog_1_method_15_code
def y_S_comeToBeFree : MethodName := ⟨R_S, "comeToBeFree", "(LSweepHand$Piece;)V"⟩
abbrev b_S_refuseDuringSweep : ByteArray := prog_1_method_16_code
def y_S_refuseDuringSweep : MethodName := ⟨R_S, "refuseDuringSweep", "()V"⟩
abbrev b_S_pieceAt : ByteArray := prog_1_method_17_code
def y_S_pieceAt : MethodName := ⟨R_S, "pieceAt", "(I)LSweepHand$Piece;"⟩
abbrev b_S_usedPieceAt : ByteArray := prog_1_method_18_code
def y_S_usedPieceAt : MethodName := ⟨R_S, "usedPieceAt", "(I)LSweepHand$Piece;"⟩
abbrev b_S_whatIsTakenFor : ByteArray := prog_1_method_19_code
def y_S_whatIsTakenFor : MethodName := ⟨R_S, "whatIsTakenFor", "(I)LSweepHand$Piece;"⟩
abbrev b_S_isTakenBefore : ByteArray := prog_1_method_20_code
def y_S_isTakenBefore : MethodName := ⟨R_S, "isTakenBefore", "(LSweepHand$Piece;LSweepHand$Piece;)Z"⟩
abbrev b_S_cutTo : ByteArray := prog_1_method_21_code
def y_S_cutTo : MethodName := ⟨R_S, "cutTo", "(LSweepHand$Piece;I)V"⟩
abbrev b_S_stepFrom : ByteArray := prog_1_method_22_code
def y_S_stepFrom : MethodName := ⟨R_S, "stepFrom", "(LSweepHand$Piece;)V"⟩
abbrev b_S_gatherFrom : ByteArray := prog_1_method_23_code
def y_S_gatherFrom : MethodName := ⟨R_S, "gatherFrom", "(LSweepHand$Piece;)V"⟩
abbrev b_S_sumOverPieces : ByteArray := prog_1_method_24_code
def y_S_sumOverPieces : MethodName := ⟨R_S, "sumOverPieces", "(I)I"⟩
abbrev b_S_shareOf : ByteArray := prog_1_method_25_code
def y_S_shareOf : MethodName := ⟨R_S, "shareOf", "(LSweepHand$Piece;I)I"⟩
abbrev b_S_greatestFree : ByteArray := prog_1_method_26_code
def y_S_greatestFree : MethodName := ⟨R_S, "greatestFree", "()I"⟩
abbrev b_S_isMarkRight : ByteArray := prog_1_method_27_code
def y_S_isMarkRight : MethodName := ⟨R_S, "isMarkRight", "(LSweepHand$Piece;Z)Z"⟩
abbrev b_S_isTimeRight : ByteArray := prog_1_method_28_code
def y_S_isTimeRight : MethodName := ⟨R_S, "isTimeRight", "(LSweepHand$Piece;)Z"⟩
abbrev b_M_init : ByteArray := prog_4_method_1_code
def y_M_init : MethodName := ⟨R_M, "<init>", "()V"⟩
abbrev b_M_thrown : ByteArray := prog_4_method_2_code
def y_M_thrown : MethodName := ⟨R_M, "thrown", "()I"⟩
abbrev b_M_goes : ByteArray := prog_4_method_3_code
def y_M_goes : MethodName := ⟨R_M, "goes", "(ZZ)Z"⟩
abbrev b_M_length : ByteArray := prog_4_method_4_code
def y_M_length : MethodName := ⟨R_M, "length", "(I)I"⟩
abbrev b_M_release : ByteArray := prog_4_method_5_code
def y_M_release : MethodName := ⟨R_M, "release", "(II)V"⟩
abbrev b_M_space : ByteArray := prog_4_method_6_code
def y_M_space : MethodName := ⟨R_M, "space", "(I)I"⟩
abbrev b_M_best : ByteArray := prog_4_method_7_code
def y_M_best : MethodName := ⟨R_M, "best", "(I)I"⟩
abbrev b_M_take : ByteArray := prog_4_method_8_code
def y_M_take : MethodName := ⟨R_M, "take", "(I)I"⟩
abbrev b_M_used : ByteArray := prog_4_method_9_code
def y_M_used : MethodName := ⟨R_M, "used", "(I)Z"⟩
abbrev b_M_give : ByteArray := prog_4_method_10_code
def y_M_give : MethodName := ⟨R_M, "give", "(I)I"⟩
abbrev b_M_mark : ByteArray := prog_4_method_11_code
def y_M_mark : MethodName := ⟨R_M, "mark", "(I)Z"⟩
abbrev b_M_marks : ByteArray := prog_4_method_12_code
def y_M_marks : MethodName := ⟨R_M, "marks", "()I"⟩
abbrev b_M_unmark : ByteArray := prog_4_method_13_code
def y_M_unmark : MethodName := ⟨R_M, "unmark", "()I"⟩
abbrev b_M_begin : ByteArray := prog_4_method_14_code
def y_M_begin : MethodName := ⟨R_M, "begin", "()V"⟩
abbrev b_M_step : ByteArray := prog_4_method_15_code
def y_M_step : MethodName := ⟨R_M, "step", "()V"⟩
abbrev b_M_sweep : ByteArray := prog_4_method_16_code
def y_M_sweep : MethodName := ⟨R_M, "sweep", "(I)I"⟩
abbrev b_M_hand : ByteArray := prog_4_method_17_code
def y_M_hand : MethodName := ⟨R_M, "hand", "()I"⟩
abbrev b_M_piece : ByteArray := prog_4_method_18_code
def y_M_piece : MethodName := ⟨R_M, "piece", "(I)I"⟩
abbrev b_M_marked : ByteArray := prog_4_method_19_code
def y_M_marked : MethodName := ⟨R_M, "marked", "(I)Z"⟩
abbrev b_M_greatest : ByteArray := prog_4_method_20_code
def y_M_greatest : MethodName := ⟨R_M, "greatest", "()I"⟩
abbrev b_M_count : ByteArray := prog_4_method_21_code
def y_M_count : MethodName := ⟨R_M, "count", "(I)I"⟩
abbrev b_M_faults : ByteArray := prog_4_method_22_code
def y_M_faults : MethodName := ⟨R_M, "faults", "()I"⟩
abbrev b_P_init : ByteArray := prog_2_method_1_code
def y_P_init : MethodName := ⟨R_P, "<init>", "(IILSweepHand$Piece;)V"⟩
abbrev b_P_end : ByteArray := prog_2_method_2_code
def y_P_end : MethodName := ⟨R_P, "end", "()I"⟩
abbrev b_P_isCrumb : ByteArray := prog_2_method_3_code
def y_P_isCrumb : MethodName := ⟨R_P, "isCrumb", "()Z"⟩
abbrev b_P_isFreeForTaking : ByteArray := prog_2_method_4_code
def y_P_isFreeForTaking : MethodName := ⟨R_P, "isFreeForTaking", "()Z"⟩
abbrev b_P_isKeptBySweep : ByteArray := prog_2_method_5_code
def y_P_isKeptBySweep : MethodName := ⟨R_P, "isKeptBySweep", "()Z"⟩
abbrev b_L_space : ByteArray := method_3_code
def y_L_space : MethodName := ⟨R_L, "space", "(LSweepHand;I[J)I"⟩
abbrev b_L_take : ByteArray := method_4_code
def y_L_take : MethodName := ⟨R_L, "take", "(LSweepHand;I[J)I"⟩
abbrev b_L_give : ByteArray := method_5_code
def y_L_give : MethodName := ⟨R_L, "give", "(LSweepHand;I[J)I"⟩
abbrev b_L_mark : ByteArray := method_6_code
def y_L_mark : MethodName := ⟨R_L, "mark", "(LSweepHand;I[J)I"⟩
abbrev b_L_unmark : ByteArray := method_7_code
def y_L_unmark : MethodName := ⟨R_L, "unmark", "(LSweepHand;[J)I"⟩
abbrev b_L_begin : ByteArray := method_8_code
def y_L_begin : MethodName := ⟨R_L, "begin", "(LSweepHand;)I"⟩
abbrev b_L_sweep : ByteArray := method_9_code
def y_L_sweep : MethodName := ⟨R_L, "sweep", "(LSweepHand;I[J)I"⟩
abbrev b_L_count : ByteArray := method_10_code
def y_L_count : MethodName := ⟨R_L, "count", "(LSweepHand;I[J)I"⟩
abbrev b_L_law : ByteArray := code
def y_L_law : MethodName := ⟨R_L, "law", "([I)Z"⟩
/-- the words of the tables that hold on as classes warm up -/
def GW : List Cond := lw_tbl.filter goodWord
theorem gw_good {w : Cond} (h : w ∈ GW) : (w.onTables && w.keeps) = true ∨ ∃ ty, w = .arrayClass ty := good_of_word (List.mem_filter.mp h).2
theorem gw_in {ws : List Cond} (h : ∀ w ∈ ws, w ∈ GW) : GoodIn GW ws := fun w hw => ⟨h w hw, gw_good (h w hw)⟩
theorem gw_c {c : Cond} (h : c ∈ GW) : GoodIn GW (c :: GW) := gw_in (fun w hw => (List.mem_cons.mp hw).elim (fun e => e ▸ h) id)
theorem gw_V {own C : String} {i : Nat} {y : MethodName} {c : Cond} (h1 : Cond.methodLink own i y ∈ GW) (h2 : Cond.instanceMethod y ∈ GW) (h3 : Cond.selects C y y ∈ GW) (h4 : Cond.initialized C ∈ GW) (h5 : c ∈ GW) : GoodIn GW (wsV own i C y (c :: GW)) := gw_in (fun w hw => by
  rcases List.mem_append.mp hw with h | h
  · simp only [List.mem_cons, List.not_mem_nil, or_false] at h
    rcases h with rfl | rfl | rfl | rfl <;> assumption
  · exact (List.mem_cons.mp h).elim (fun e => e ▸ h5) id)
theorem gw_S {own : String} {i : Nat} {y : MethodName} {c : Cond} (h1 : Cond.methodLink own i y ∈ GW) (h2 : Cond.static y ∈ GW) (h4 : Cond.initialized y.cls ∈ GW) (h5 : c ∈ GW) : GoodIn GW (va_wsS own i y (c :: GW)) := gw_in (fun w hw => by
  rcases List.mem_append.mp hw with h | h
  · simp only [List.mem_cons, List.not_mem_nil, or_false] at h
    rcases h with rfl | rfl | rfl <;> assumption
  · exact (List.mem_cons.mp h).elim (fun e => e ▸ h5) id)

/-! tables of the small machine, by program -/
def R_Block : String := "SandKernel$Block"
def F_Block : u_T := fun k => match k with
  | 0 => ("SandKernel$Block", "file", "I", false)
  | 1 => ("SandKernel$Block", "number", "I", false)
  | 2 => ("SandKernel$Block", "dirty", "Z", false)
  | _ => ("SandKernel$Block", "cells", "[I", true)
def t_Block : Nat → FieldType := fun k => match k with
  | 0 => .int
  | 1 => .int
  | 2 => .boolean
  | _ => .array .int
def R_Cache : String := "SandKernel$Cache"
def F_Cache : u_T := fun k => match k with
  | 0 => ("SandKernel$Cache", "disk", "LSandKernel$Host;", true)
  | 1 => ("SandKernel$Cache", "lengths", "[I", true)
  | 2 => ("SandKernel$Cache", "blocks", "[LSandKernel$Block;", true)
  | _ => ("SandKernel$Cache", "size", "I", false)
def t_Cache : Nat → FieldType := fun k => match k with
  | 0 => .object "SandKernel$Host"
  | 1 => .array .int
  | 2 => .array (.object "SandKernel$Block")
  | _ => .int
def R_Host : String := "SandKernel$Host"
def F_Host : u_T := fun k => match k with
  | 0 => ("SandKernel$Host", "there", "[Z", true)
  | 1 => ("SandKernel$Host", "lengths", "[I", true)
  | 2 => ("SandKernel$Host", "cells", "[I", true)
  | 3 => ("SandKernel$Host", "entries", "[I", true)
  | 4 => ("SandKernel$Host", "operations", "I", false)
  | 5 => ("SandKernel$Host", "leftToFail", "I", false)
  | _ => ("SandKernel$Host", "newest", "I", false)
def t_Host : Nat → FieldType := fun k => match k with
  | 0 => .array .boolean
  | 1 => .array .int
  | 2 => .array .int
  | 3 => .array .int
  | 4 => .int
  | 5 => .int
  | _ => .int
def R_Opening : String := "SandKernel$Opening"
def F_Opening : u_T := fun k => match k with
  | 0 => ("SandKernel$Opening", "holders", "I", false)
  | 1 => ("SandKernel$Opening", "mode", "I", false)
  | 2 => ("SandKernel$Opening", "file", "I", false)
  | 3 => ("SandKernel$Opening", "position", "I", false)
  | _ => ("SandKernel$Opening", "pipe", "LSandKernel$Pipe;", false)
def t_Opening : Nat → FieldType := fun k => match k with
  | 0 => .int
  | 1 => .int
  | 2 => .int
  | 3 => .int
  | _ => .object "SandKernel$Pipe"
def R_Pipe : String := "SandKernel$Pipe"
def F_Pipe : u_T := fun k => match k with
  | 0 => ("SandKernel$Pipe", "cells", "[I", true)
  | 1 => ("SandKernel$Pipe", "oldest", "I", false)
  | 2 => ("SandKernel$Pipe", "held", "I", false)
  | 3 => ("SandKernel$Pipe", "hasReader", "Z", false)
  | _ => ("SandKernel$Pipe", "hasWriter", "Z", false)
def t_Pipe : Nat → FieldType := fun k => match k with
  | 0 => .array .int
  | 1 => .int
  | 2 => .int
  | 3 => .boolean
  | _ => .boolean
def R_Task : String := "SandKernel$Task"
def F_Task : u_T := fun k => match k with
  | 0 => ("SandKernel$Task", "state", "I", false)
  | 1 => ("SandKernel$Task", "parent", "I", false)
  | 2 => ("SandKernel$Task", "code", "I", false)
  | _ => ("SandKernel$Task", "descriptors", "[LSandKernel$Opening;", true)
def t_Task : Nat → FieldType := fun k => match k with
  | 0 => .int
  | 1 => .int
  | 2 => .int
  | _ => .array (.object "SandKernel$Opening")
def R_K : String := "SandKernel"
def F_K : u_T := fun k => match k with
  | 0 => ("SandKernel", "disk", "LSandKernel$Host;", true)
  | 1 => ("SandKernel", "cache", "LSandKernel$Cache;", true)
  | 2 => ("SandKernel", "policies", "[I", true)
  | 3 => ("SandKernel", "openings", "[LSandKernel$Opening;", true)
  | _ => ("SandKernel", "tasks", "[LSandKernel$Task;", true)
def t_K : Nat → FieldType := fun k => match k with
  | 0 => .object "SandKernel$Host"
  | 1 => .object "SandKernel$Cache"
  | 2 => .array .int
  | 3 => .array (.object "SandKernel$Opening")
  | _ => .array (.object "SandKernel$Task")
def R_M : String := "SandKernelModel"
def F_M : u_T := fun k => match k with
  | 0 => ("SandKernelModel", "there", "[Z", true)
  | 1 => ("SandKernelModel", "hostLength", "[I", true)
  | 2 => ("SandKernelModel", "hostCell", "[I", true)
  | 3 => ("SandKernelModel", "length", "[I", true)
  | 4 => ("SandKernelModel", "policy", "[I", true)
  | 5 => ("SandKernelModel", "name", "[I", true)
  | 6 => ("SandKernelModel", "dirty", "[Z", true)
  | 7 => ("SandKernelModel", "cells", "[I", true)
  | 8 => ("SandKernelModel", "cached", "I", false)
  | 9 => ("SandKernelModel", "present", "[Z", true)
  | 10 => ("SandKernelModel", "ended", "[Z", true)
  | 11 => ("SandKernelModel", "parent", "[I", true)
  | 12 => ("SandKernelModel", "code", "[I", true)
  | 13 => ("SandKernelModel", "of", "[I", true)
  | 14 => ("SandKernelModel", "kind", "[I", true)
  | 15 => ("SandKernelModel", "what", "[I", true)
  | 16 => ("SandKernelModel", "mode", "[I", true)
  | 17 => ("SandKernelModel", "position", "[I", true)
  | 18 => ("SandKernelModel", "pipeCell", "[I", true)
  | 19 => ("SandKernelModel", "pipeSize", "[I", true)
  | 20 => ("SandKernelModel", "toFail", "I", false)
  | 21 => ("SandKernelModel", "operations", "I", false)
  | _ => ("SandKernelModel", "log", "[I", true)
def t_M : Nat → FieldType := fun k => match k with
  | 0 => .array .boolean
  | 1 => .array .int
  | 2 => .array .int
  | 3 => .array .int
  | 4 => .array .int
  | 5 => .array .int
  | 6 => .array .boolean
  | 7 => .array .int
  | 8 => .int
  | 9 => .array .boolean
  | 10 => .array .boolean
  | 11 => .array .int
  | 12 => .array .int
  | 13 => .array .int
  | 14 => .array .int
  | 15 => .array .int
  | 16 => .array .int
  | 17 => .array .int
  | 18 => .array .int
  | 19 => .array .int
  | 20 => .int
  | 21 => .int
  | _ => .array .int
abbrev xk_cl : List vw_C := [(R_Block, F_Block, 4), (R_Cache, F_Cache, 4), (R_Host, F_Host, 7), (R_Opening, F_Opening, 5), (R_Pipe, F_Pipe, 5), (R_Task, F_Task, 4), (R_K, F_K, 5), (R_M, F_M, 23)]
def xk_ty (ci : Nat) : Nat → FieldType := match ci with
  | 0 => t_Block
  | 1 => t_Cache
  | 2 => t_Host
  | 3 => t_Opening
  | 4 => t_Pipe
  | 5 => t_Task
  | 6 => t_K
  | _ => t_M
def xk_rf (ci k : Nat) : Bool := match ci with
  | 0 => Nat.beq k 3
  | 1 => Nat.beq k 0 || Nat.beq k 1 || Nat.beq k 2
  | 2 => Nat.beq k 0 || Nat.beq k 1 || Nat.beq k 2 || Nat.beq k 3
  | 3 => Nat.beq k 4
  | 4 => Nat.beq k 0
  | 5 => Nat.beq k 3
  | 6 => Nat.beq k 0 || Nat.beq k 1 || Nat.beq k 2 || Nat.beq k 3 || Nat.beq k 4
  | _ => !(Nat.beq k 8 || Nat.beq k 20 || Nat.beq k 21)
def xk_aty (t : Nat) : FieldType := match t with
  | 0 => .int
  | 1 => .boolean
  | 2 => .object "SandKernel$Block"
  | 3 => .object "SandKernel$Opening"
  | _ => .object "SandKernel$Task"
def xk_ao : List String := ["SandKernel$Block", "SandKernel$Opening", "SandKernel$Task"]
/-- what the cell of a number is: an object of a class, or an array of a kind and a length -/
def xk_kd (a : Nat) : Nat ⊕ (Nat × Nat) := bif Nat.blt a 74 then (bif Nat.blt a 37 then (bif Nat.blt a 18 then (bif Nat.blt a 9 then (bif Nat.blt a 4 then (bif Nat.blt a 2 then (bif Nat.blt a 1 then (.inr (0, 0)) else (.inl 6)) else (bif Nat.blt a 3 then (.inl 2) else (.inr (1, 8)))) else (bif Nat.blt a 6 then (bif Nat.blt a 5 then (.inr (0, 8)) else (.inr (0, 256))) else (bif Nat.blt a 7 then (.inr (0, 16)) else (bif Nat.blt a 8 then (.inl 1) else (.inr (0, 8)))))) else (bif Nat.blt a 13 then (bif Nat.blt a 11 then (bif Nat.blt a 10 then (.inr (2, 5)) else (.inl 0)) else (bif Nat.blt a 12 then (.inr (0, 8)) else (.inl 0))) else (bif Nat.blt a 15 then (bif Nat.blt a 14 then (.inr (0, 8)) else (.inl 0)) else (bif Nat.blt a 16 then (.inr (0, 8)) else (bif Nat.blt a 17 then (.inl 0) else (.inr (0, 8))))))) else (bif Nat.blt a 27 then (bif Nat.blt a 22 then (bif Nat.blt a 20 then (bif Nat.blt a 19 then (.inl 0) else (.inr (0, 8))) else (bif Nat.blt a 21 then (.inr (0, 8)) else (.inr (3, 16)))) else (bif Nat.blt a 24 then (bif Nat.blt a 23 then (.inl 3) else (.inl 3)) else (bif Nat.blt a 25 then (.inl 3) else (bif Nat.blt a 26 then (.inl 3) else (.inl 3))))) else (bif Nat.blt a 32 then (bif Nat.blt a 29 then (bif Nat.blt a 28 then (.inl 3) else (.inl 3)) else (bif Nat.blt a 30 then (.inl 3) else (bif Nat.blt a 31 then (.inl 3) else (.inl 3)))) else (bif Nat.blt a 34 then (bif Nat.blt a 33 then (.inl 3) else (.inl 3)) else (bif Nat.blt a 35 then (.inl 3) else (bif Nat.blt a 36 then (.inl 3) else (.inl 3))))))) else (bif Nat.blt a 55 then (bif Nat.blt a 46 then (bif Nat.blt a 41 then (bif Nat.blt a 39 then (bif Nat.blt a 38 then (.inl 3) else (.inr (4, 7))) else (bif Nat.blt a 40 then (.inl 5) else (.inr (3, 6)))) else (bif Nat.blt a 43 then (bif Nat.blt a 42 then (.inl 5) else (.inr (3, 6))) else (bif Nat.blt a 44 then (.inl 5) else (bif Nat.blt a 45 then (.inr (3, 6)) else (.inl 5))))) else (bif Nat.blt a 50 then (bif Nat.blt a 48 then (bif Nat.blt a 47 then (.inr (3, 6)) else (.inl 5)) else (bif Nat.blt a 49 then (.inr (3, 6)) else (.inl 5))) else (bif Nat.blt a 52 then (bif Nat.blt a 51 then (.inr (3, 6)) else (.inl 5)) else (bif Nat.blt a 53 then (.inr (3, 6)) else (bif Nat.blt a 54 then (.inl 7) else (.inr (1, 8))))))) else (bif Nat.blt a 64 then (bif Nat.blt a 59 then (bif Nat.blt a 57 then (bif Nat.blt a 56 then (.inr (0, 8)) else (.inr (0, 256))) else (bif Nat.blt a 58 then (.inr (0, 8)) else (.inr (0, 8)))) else (bif Nat.blt a 61 then (bif Nat.blt a 60 then (.inr (0, 6)) else (.inr (1, 6))) else (bif Nat.blt a 62 then (.inr (0, 48)) else (bif Nat.blt a 63 then (.inr (1, 7)) else (.inr (1, 7)))))) else (bif Nat.blt a 69 then (bif Nat.blt a 66 then (bif Nat.blt a 65 then (.inr (0, 7)) else (.inr (0, 7))) else (bif Nat.blt a 67 then (.inr (0, 42)) else (bif Nat.blt a 68 then (.inr (0, 16)) else (.inr (0, 16))))) else (bif Nat.blt a 71 then (bif Nat.blt a 70 then (.inr (0, 16)) else (.inr (0, 16))) else (bif Nat.blt a 72 then (.inr (0, 64)) else (bif Nat.blt a 73 then (.inr (0, 16)) else (.inr (0, 16))))))))) else (bif Nat.beq (a % 2) 0 then .inl 4 else .inr (0, 4))
def xk_nw : List Cond := [.fieldLinkNest "SandKernel$Cache" 30 "SandKernel$Block" "file" "I" "SandKernel", .fieldLinkNest "SandKernel$Cache" 75 "SandKernel$Block" "number" "I" "SandKernel", .fieldLinkNest "SandKernel$Cache" 33 "SandKernel$Block" "dirty" "Z" "SandKernel", .fieldLinkNest "SandKernel" 246 "SandKernel$Block" "dirty" "Z" "SandKernel", .fieldLinkNest "SandKernel$Cache" 62 "SandKernel$Block" "cells" "[I" "SandKernel", .fieldLinkNest "SandKernel" 243 "SandKernel$Block" "cells" "[I" "SandKernel", .fieldLinkNest "SandKernel$Task" 30 "SandKernel$Opening" "holders" "I" "SandKernel", .fieldLinkNest "SandKernel" 230 "SandKernel$Opening" "holders" "I" "SandKernel", .fieldLinkNest "SandKernel" 135 "SandKernel$Opening" "file" "I" "SandKernel", .fieldLinkNest "SandKernel" 142 "SandKernel$Opening" "position" "I" "SandKernel", .fieldLinkNest "SandKernel" 116 "SandKernel$Opening" "pipe" "LSandKernel$Pipe;" "SandKernel", .fieldLinkNest "SandKernel" 173 "SandKernel$Task" "state" "I" "SandKernel", .fieldLinkNest "SandKernel" 170 "SandKernel$Task" "parent" "I" "SandKernel", .fieldLinkNest "SandKernel" 179 "SandKernel$Task" "code" "I" "SandKernel", .fieldLinkNest "SandKernel" 224 "SandKernel$Task" "descriptors" "[LSandKernel$Opening;" "SandKernel", .fieldLinkNest "SandKernel$Opening" 36 "SandKernel$Pipe" "hasReader" "Z" "SandKernel", .fieldLinkNest "SandKernel$Opening" 42 "SandKernel$Pipe" "hasWriter" "Z" "SandKernel", .methodLinkNest "SandKernel" 9 ⟨"SandKernel$Host", "<init>", "()V"⟩ "SandKernel", .methodLinkNest "SandKernel$Cache" 29 ⟨"SandKernel$Block", "<init>", "()V"⟩ "SandKernel", .methodLinkNest "SandKernel" 41 ⟨"SandKernel$Opening", "<init>", "()V"⟩ "SandKernel", .methodLinkNest "SandKernel" 48 ⟨"SandKernel$Task", "<init>", "()V"⟩ "SandKernel", .methodLinkNest "SandKernel" 100 ⟨"SandKernel$Pipe", "<init>", "()V"⟩ "SandKernel"]
def xk_nwi : List Nat := [98, 100, 102, 103, 105, 106, 140, 141, 144, 146, 148, 169, 171, 173, 175, 316, 318, 56, 93, 135, 163, 308]
def m_K_init : xk_Y := (false, ⟨"SandKernel", "<init>", "()V"⟩, prog_1_method_1_code, 2, none, { frames := 3, cells := 51, slots := 1000, locals := 102 })
def m_Host_init : xk_Y := (false, ⟨"SandKernel$Host", "<init>", "()V"⟩, prog_4_method_1_code, 1, none, { frames := 1, cells := 4, slots := 288, locals := 60 })
def m_Cache_init : xk_Y := (false, ⟨"SandKernel$Cache", "<init>", "(LSandKernel$Host;)V"⟩, prog_3_method_1_code, 3, none, { frames := 2, cells := 12, slots := 200, locals := 80 })
def m_Block_init : xk_Y := (false, ⟨"SandKernel$Block", "<init>", "()V"⟩, prog_2_method_1_code, 1, none, { frames := 1, cells := 1, slots := 8, locals := 60 })
def m_Arr_fill2 : xk_Y := (false, ⟨"java/util/Arrays", "fill", "([II)V"⟩, prog_12_method_103_code, 4, none, { frames := 1, cells := 0, slots := 0, locals := 21 })
def m_Opening_init : xk_Y := (false, ⟨"SandKernel$Opening", "<init>", "()V"⟩, prog_5_method_1_code, 1, none, { frames := 1, cells := 0, slots := 0, locals := 60 })
def m_Task_init : xk_Y := (false, ⟨"SandKernel$Task", "<init>", "()V"⟩, prog_7_method_1_code, 1, none, { frames := 1, cells := 1, slots := 6, locals := 60 })
def m_Task_begin : xk_Y := (false, ⟨"SandKernel$Task", "begin", "(I)V"⟩, prog_7_method_2_code, 2, none, { frames := 1, cells := 0, slots := 0, locals := 21 })
def m_K_put : xk_Y := (false, ⟨"SandKernel", "put", "(III)I"⟩, prog_1_method_2_code, 4, some .int, { frames := 5, cells := 0, slots := 0, locals := 151 })
def m_K_isBelow : xk_Y := (false, ⟨"SandKernel", "isBelow", "(II)Z"⟩, prog_1_method_22_code, 2, some .boolean, { frames := 1, cells := 0, slots := 0, locals := 21 })
def m_K_isOpen : xk_Y := (false, ⟨"SandKernel", "isOpen", "(I)Z"⟩, prog_1_method_26_code, 3, some .boolean, { frames := 2, cells := 0, slots := 0, locals := 42 })
def m_Opening_isOfFile : xk_Y := (false, ⟨"SandKernel$Opening", "isOfFile", "(I)Z"⟩, prog_5_method_5_code, 2, some .boolean, { frames := 1, cells := 0, slots := 0, locals := 21 })
def m_Cache_holdsFile : xk_Y := (false, ⟨"SandKernel$Cache", "holdsFile", "(I)Z"⟩, prog_3_method_6_code, 3, some .boolean, { frames := 1, cells := 0, slots := 0, locals := 21 })
def m_Host_place : xk_Y := (false, ⟨"SandKernel$Host", "place", "(III)V"⟩, prog_4_method_9_code, 5, none, { frames := 4, cells := 0, slots := 0, locals := 127 })
def m_Host_clear : xk_Y := (false, ⟨"SandKernel$Host", "clear", "(I)V"⟩, prog_4_method_15_code, 2, none, { frames := 3, cells := 0, slots := 0, locals := 106 })
def m_Arr_fill4 : xk_Y := (false, ⟨"java/util/Arrays", "fill", "([IIII)V"⟩, prog_12_method_104_code, 5, none, { frames := 2, cells := 0, slots := 0, locals := 82 })
def m_Arr_rangeCheck : xk_Y := (false, ⟨"java/util/Arrays", "rangeCheck", "(III)V"⟩, prog_12_method_30_code, 3, none, { frames := 1, cells := 0, slots := 0, locals := 60 })
def m_Cache_setLength : xk_Y := (false, ⟨"SandKernel$Cache", "setLength", "(II)V"⟩, prog_3_method_3_code, 3, none, { frames := 1, cells := 0, slots := 0, locals := 21 })
def m_K_policy : xk_Y := (false, ⟨"SandKernel", "policy", "(II)I"⟩, prog_1_method_3_code, 3, some .int, { frames := 2, cells := 0, slots := 0, locals := 42 })
def m_K_failing : xk_Y := (false, ⟨"SandKernel", "failing", "(I)I"⟩, prog_1_method_4_code, 2, some .int, { frames := 2, cells := 0, slots := 0, locals := 42 })
def m_Host_setToFail : xk_Y := (false, ⟨"SandKernel$Host", "setToFail", "(I)V"⟩, prog_4_method_8_code, 2, none, { frames := 1, cells := 0, slots := 0, locals := 21 })
def m_K_open : xk_Y := (false, ⟨"SandKernel", "open", "(III)I"⟩, prog_1_method_5_code, 7, some .int, { frames := 6, cells := 0, slots := 0, locals := 170 })
def m_K_isAlive : xk_Y := (false, ⟨"SandKernel", "isAlive", "(I)Z"⟩, prog_1_method_23_code, 2, some .boolean, { frames := 2, cells := 0, slots := 0, locals := 42 })
def m_Host_isThere : xk_Y := (false, ⟨"SandKernel$Host", "isThere", "(I)Z"⟩, prog_4_method_2_code, 2, some .boolean, { frames := 1, cells := 0, slots := 0, locals := 21 })
def m_Task_freeFrom : xk_Y := (false, ⟨"SandKernel$Task", "freeFrom", "(I)I"⟩, prog_7_method_6_code, 3, some .int, { frames := 1, cells := 0, slots := 0, locals := 21 })
def m_K_unusedFrom : xk_Y := (false, ⟨"SandKernel", "unusedFrom", "(I)I"⟩, prog_1_method_27_code, 3, some .int, { frames := 1, cells := 0, slots := 0, locals := 21 })
def m_K_readyFile : xk_Y := (false, ⟨"SandKernel", "readyFile", "(II)Z"⟩, prog_1_method_31_code, 3, some .boolean, { frames := 5, cells := 0, slots := 0, locals := 148 })
def m_Host_makeFile : xk_Y := (false, ⟨"SandKernel$Host", "makeFile", "(I)Z"⟩, prog_4_method_10_code, 2, some .boolean, { frames := 4, cells := 0, slots := 0, locals := 127 })
def m_Host_succeeds : xk_Y := (false, ⟨"SandKernel$Host", "succeeds", "(III)Z"⟩, prog_4_method_16_code, 6, some .boolean, { frames := 1, cells := 0, slots := 0, locals := 21 })
def m_Host_emptyFile : xk_Y := (false, ⟨"SandKernel$Host", "emptyFile", "(I)Z"⟩, prog_4_method_11_code, 2, some .boolean, { frames := 4, cells := 0, slots := 0, locals := 127 })
def m_Cache_dropFile : xk_Y := (false, ⟨"SandKernel$Cache", "dropFile", "(I)V"⟩, prog_3_method_10_code, 5, none, { frames := 1, cells := 0, slots := 0, locals := 21 })
def m_Opening_becomeFile : xk_Y := (false, ⟨"SandKernel$Opening", "becomeFile", "(II)V"⟩, prog_5_method_2_code, 3, none, { frames := 1, cells := 0, slots := 0, locals := 21 })
def m_Task_hold : xk_Y := (false, ⟨"SandKernel$Task", "hold", "(ILSandKernel$Opening;)V"⟩, prog_7_method_7_code, 3, none, { frames := 1, cells := 0, slots := 0, locals := 21 })
def m_K_pipe : xk_Y := (false, ⟨"SandKernel", "pipe", "(I)I"⟩, prog_1_method_6_code, 8, some .int, { frames := 3, cells := 2, slots := 10, locals := 80 })
def m_Pipe_init : xk_Y := (false, ⟨"SandKernel$Pipe", "<init>", "()V"⟩, prog_6_method_1_code, 1, none, { frames := 1, cells := 1, slots := 4, locals := 60 })
def m_Opening_becomePipeEnd : xk_Y := (false, ⟨"SandKernel$Opening", "becomePipeEnd", "(LSandKernel$Pipe;I)V"⟩, prog_5_method_3_code, 3, none, { frames := 1, cells := 0, slots := 0, locals := 21 })
def m_K_read : xk_Y := (false, ⟨"SandKernel", "read", "(II)I"⟩, prog_1_method_7_code, 5, some .int, { frames := 7, cells := 0, slots := 0, locals := 177 })
def m_K_openingOf : xk_Y := (false, ⟨"SandKernel", "openingOf", "(II)LSandKernel$Opening;"⟩, prog_1_method_24_code, 3, some (.object "SandKernel$Opening"), { frames := 3, cells := 0, slots := 0, locals := 63 })
def m_K_whyNoOpening : xk_Y := (false, ⟨"SandKernel", "whyNoOpening", "(II)I"⟩, prog_1_method_25_code, 3, some .int, { frames := 3, cells := 0, slots := 0, locals := 63 })
def m_Opening_may : xk_Y := (false, ⟨"SandKernel$Opening", "may", "(I)Z"⟩, prog_5_method_4_code, 2, some .boolean, { frames := 1, cells := 0, slots := 0, locals := 21 })
def m_K_readFile : xk_Y := (false, ⟨"SandKernel", "readFile", "(LSandKernel$Opening;)I"⟩, prog_1_method_32_code, 4, some .int, { frames := 6, cells := 0, slots := 0, locals := 154 })
def m_Cache_lengthOf : xk_Y := (false, ⟨"SandKernel$Cache", "lengthOf", "(I)I"⟩, prog_3_method_2_code, 2, some .int, { frames := 1, cells := 0, slots := 0, locals := 21 })
def m_Cache_getBlock : xk_Y := (false, ⟨"SandKernel$Cache", "getBlock", "(II)LSandKernel$Block;"⟩, prog_3_method_8_code, 6, some (.object "SandKernel$Block"), { frames := 5, cells := 0, slots := 0, locals := 129 })
def m_Cache_find : xk_Y := (false, ⟨"SandKernel$Cache", "find", "(II)I"⟩, prog_3_method_12_code, 4, some .int, { frames := 2, cells := 0, slots := 0, locals := 43 })
def m_Block_isOf : xk_Y := (false, ⟨"SandKernel$Block", "isOf", "(II)Z"⟩, prog_2_method_2_code, 3, some .boolean, { frames := 1, cells := 0, slots := 0, locals := 21 })
def m_Cache_makeRoom : xk_Y := (false, ⟨"SandKernel$Cache", "makeRoom", "()Z"⟩, prog_3_method_13_code, 2, some .boolean, { frames := 4, cells := 0, slots := 0, locals := 108 })
def m_Cache_writeOut : xk_Y := (false, ⟨"SandKernel$Cache", "writeOut", "(LSandKernel$Block;)Z"⟩, prog_3_method_15_code, 2, some .boolean, { frames := 3, cells := 0, slots := 0, locals := 87 })
def m_Host_writeBlock : xk_Y := (false, ⟨"SandKernel$Host", "writeBlock", "(II[II)Z"⟩, prog_4_method_14_code, 8, some .boolean, { frames := 2, cells := 0, slots := 0, locals := 60 })
def m_Cache_bringIn : xk_Y := (false, ⟨"SandKernel$Cache", "bringIn", "(II)Z"⟩, prog_3_method_14_code, 4, some .boolean, { frames := 3, cells := 0, slots := 0, locals := 84 })
def m_Host_readBlock : xk_Y := (false, ⟨"SandKernel$Host", "readBlock", "(II[I)Z"⟩, prog_4_method_13_code, 5, some .boolean, { frames := 2, cells := 0, slots := 0, locals := 60 })
def m_Pipe_takeCell : xk_Y := (false, ⟨"SandKernel$Pipe", "takeCell", "()I"⟩, prog_6_method_2_code, 2, some .int, { frames := 1, cells := 0, slots := 0, locals := 21 })
def m_K_write : xk_Y := (false, ⟨"SandKernel", "write", "(III)I"⟩, prog_1_method_8_code, 6, some .int, { frames := 7, cells := 0, slots := 0, locals := 179 })
def m_K_writeFile : xk_Y := (false, ⟨"SandKernel", "writeFile", "(LSandKernel$Opening;I)I"⟩, prog_1_method_33_code, 6, some .int, { frames := 6, cells := 0, slots := 0, locals := 154 })
def m_Pipe_addCell : xk_Y := (false, ⟨"SandKernel$Pipe", "addCell", "(I)I"⟩, prog_6_method_3_code, 2, some .int, { frames := 1, cells := 0, slots := 0, locals := 21 })
def m_K_seek : xk_Y := (false, ⟨"SandKernel", "seek", "(III)I"⟩, prog_1_method_9_code, 5, some .int, { frames := 4, cells := 0, slots := 0, locals := 85 })
def m_K_sync : xk_Y := (false, ⟨"SandKernel", "sync", "(II)I"⟩, prog_1_method_10_code, 4, some .int, { frames := 5, cells := 0, slots := 0, locals := 132 })
def m_Cache_writeFileOut : xk_Y := (false, ⟨"SandKernel$Cache", "writeFileOut", "(I)I"⟩, prog_3_method_9_code, 5, some .int, { frames := 4, cells := 0, slots := 0, locals := 108 })
def m_K_dup : xk_Y := (false, ⟨"SandKernel", "dup", "(II)I"⟩, prog_1_method_11_code, 5, some .int, { frames := 4, cells := 0, slots := 0, locals := 85 })
def m_K_close : xk_Y := (false, ⟨"SandKernel", "close", "(II)I"⟩, prog_1_method_12_code, 3, some .int, { frames := 5, cells := 0, slots := 0, locals := 105 })
def m_Task_letGo : xk_Y := (false, ⟨"SandKernel$Task", "letGo", "(I)V"⟩, prog_7_method_8_code, 3, none, { frames := 4, cells := 0, slots := 0, locals := 83 })
def m_Opening_loseHolder : xk_Y := (false, ⟨"SandKernel$Opening", "loseHolder", "()V"⟩, prog_5_method_6_code, 1, none, { frames := 3, cells := 0, slots := 0, locals := 63 })
def m_Opening_leavePipe : xk_Y := (false, ⟨"SandKernel$Opening", "leavePipe", "(LSandKernel$Pipe;)V"⟩, prog_5_method_7_code, 2, none, { frames := 2, cells := 0, slots := 0, locals := 42 })
def m_K_unlink : xk_Y := (false, ⟨"SandKernel", "unlink", "(II)I"⟩, prog_1_method_13_code, 3, some .int, { frames := 3, cells := 0, slots := 0, locals := 67 })
def m_Host_removeFile : xk_Y := (false, ⟨"SandKernel$Host", "removeFile", "(I)Z"⟩, prog_4_method_12_code, 2, some .boolean, { frames := 2, cells := 0, slots := 0, locals := 46 })
def m_K_fork : xk_Y := (false, ⟨"SandKernel", "fork", "(I)I"⟩, prog_1_method_14_code, 3, some .int, { frames := 3, cells := 0, slots := 0, locals := 66 })
def m_K_leastNotThere : xk_Y := (false, ⟨"SandKernel", "leastNotThere", "()I"⟩, prog_1_method_29_code, 2, some .int, { frames := 1, cells := 0, slots := 0, locals := 21 })
def m_Task_shareAllOf : xk_Y := (false, ⟨"SandKernel$Task", "shareAllOf", "(LSandKernel$Task;)V"⟩, prog_7_method_9_code, 4, none, { frames := 2, cells := 0, slots := 0, locals := 43 })
def m_K_exit : xk_Y := (false, ⟨"SandKernel", "exit", "(II)I"⟩, prog_1_method_15_code, 4, some .int, { frames := 7, cells := 0, slots := 0, locals := 147 })
def m_Task_finish : xk_Y := (false, ⟨"SandKernel$Task", "finish", "(I)V"⟩, prog_7_method_3_code, 2, none, { frames := 6, cells := 0, slots := 0, locals := 126 })
def m_Task_letGoAll : xk_Y := (false, ⟨"SandKernel$Task", "letGoAll", "()V"⟩, prog_7_method_10_code, 2, none, { frames := 5, cells := 0, slots := 0, locals := 105 })
def m_Task_isChildOf : xk_Y := (false, ⟨"SandKernel$Task", "isChildOf", "(I)Z"⟩, prog_7_method_5_code, 2, some .boolean, { frames := 1, cells := 0, slots := 0, locals := 21 })
def m_K_wait : xk_Y := (false, ⟨"SandKernel", "wait", "(I)I"⟩, prog_1_method_16_code, 5, some .int, { frames := 7, cells := 0, slots := 0, locals := 146 })
def m_Task_vanish : xk_Y := (false, ⟨"SandKernel$Task", "vanish", "()V"⟩, prog_7_method_4_code, 1, none, { frames := 6, cells := 0, slots := 0, locals := 126 })
def m_K_crash : xk_Y := (false, ⟨"SandKernel", "crash", "()I"⟩, prog_1_method_17_code, 2, some .int, { frames := 7, cells := 0, slots := 0, locals := 146 })
def m_Cache_startAnew : xk_Y := (false, ⟨"SandKernel$Cache", "startAnew", "()V"⟩, prog_3_method_11_code, 2, none, { frames := 2, cells := 0, slots := 0, locals := 42 })
def m_Host_lengthOf : xk_Y := (false, ⟨"SandKernel$Host", "lengthOf", "(I)I"⟩, prog_4_method_3_code, 2, some .int, { frames := 1, cells := 0, slots := 0, locals := 21 })
def m_K_host : xk_Y := (false, ⟨"SandKernel", "host", "(II)I"⟩, prog_1_method_18_code, 3, some .int, { frames := 2, cells := 0, slots := 0, locals := 43 })
def m_Host_cellAt : xk_Y := (false, ⟨"SandKernel$Host", "cellAt", "(II)I"⟩, prog_4_method_4_code, 3, some .int, { frames := 1, cells := 0, slots := 0, locals := 21 })
def m_K_log : xk_Y := (false, ⟨"SandKernel", "log", "(I)I"⟩, prog_1_method_19_code, 2, some .int, { frames := 2, cells := 0, slots := 0, locals := 60 })
def m_Host_operations : xk_Y := (false, ⟨"SandKernel$Host", "operations", "()I"⟩, prog_4_method_5_code, 1, some .int, { frames := 1, cells := 0, slots := 0, locals := 21 })
def m_Host_entryAt : xk_Y := (false, ⟨"SandKernel$Host", "entryAt", "(I)I"⟩, prog_4_method_6_code, 2, some .int, { frames := 1, cells := 0, slots := 0, locals := 21 })
def m_K_cached : xk_Y := (false, ⟨"SandKernel", "cached", "(I)I"⟩, prog_1_method_20_code, 2, some .int, { frames := 2, cells := 0, slots := 0, locals := 42 })
def m_Cache_size : xk_Y := (false, ⟨"SandKernel$Cache", "size", "()I"⟩, prog_3_method_4_code, 1, some .int, { frames := 1, cells := 0, slots := 0, locals := 21 })
def m_Cache_blockAt : xk_Y := (false, ⟨"SandKernel$Cache", "blockAt", "(I)LSandKernel$Block;"⟩, prog_3_method_5_code, 2, some (.object "SandKernel$Block"), { frames := 1, cells := 0, slots := 0, locals := 21 })
def m_Block_describe : xk_Y := (false, ⟨"SandKernel$Block", "describe", "()I"⟩, prog_2_method_3_code, 1, some .int, { frames := 1, cells := 0, slots := 0, locals := 21 })
def m_K_count : xk_Y := (false, ⟨"SandKernel", "count", "(I)I"⟩, prog_1_method_21_code, 2, some .int, { frames := 2, cells := 0, slots := 0, locals := 43 })
def m_K_openingsThere : xk_Y := (false, ⟨"SandKernel", "openingsThere", "()I"⟩, prog_1_method_28_code, 3, some .int, { frames := 1, cells := 0, slots := 0, locals := 21 })
def m_K_tasksThere : xk_Y := (false, ⟨"SandKernel", "tasksThere", "()I"⟩, prog_1_method_30_code, 3, some .int, { frames := 1, cells := 0, slots := 0, locals := 21 })
def m_Cache_dirtyBlocks : xk_Y := (false, ⟨"SandKernel$Cache", "dirtyBlocks", "()I"⟩, prog_3_method_7_code, 3, some .int, { frames := 1, cells := 0, slots := 0, locals := 21 })
def m_Host_leftToFail : xk_Y := (false, ⟨"SandKernel$Host", "leftToFail", "()I"⟩, prog_4_method_7_code, 1, some .int, { frames := 1, cells := 0, slots := 0, locals := 21 })
def m_M_init : xk_Y := (false, ⟨"SandKernelModel", "<init>", "()V"⟩, prog_9_method_1_code, 2, none, { frames := 2, cells := 20, slots := 1000, locals := 60 })
def m_M_reborn : xk_Y := (false, ⟨"SandKernelModel", "reborn", "()V"⟩, prog_9_method_2_code, 2, none, { frames := 1, cells := 0, slots := 0, locals := 21 })
def m_M_put : xk_Y := (false, ⟨"SandKernelModel", "put", "(III)I"⟩, prog_9_method_18_code, 6, some .int, { frames := 3, cells := 0, slots := 0, locals := 65 })
def m_M_in : xk_Y := (false, ⟨"SandKernelModel", "in", "(III)Z"⟩, prog_9_method_3_code, 3, some .boolean, { frames := 1, cells := 0, slots := 0, locals := 21 })
def m_M_openFile : xk_Y := (false, ⟨"SandKernelModel", "openFile", "(I)Z"⟩, prog_9_method_7_code, 3, some .boolean, { frames := 2, cells := 0, slots := 0, locals := 43 })
def m_M_used : xk_Y := (false, ⟨"SandKernelModel", "used", "(I)Z"⟩, prog_9_method_5_code, 3, some .boolean, { frames := 1, cells := 0, slots := 0, locals := 21 })
def m_M_wipeHost : xk_Y := (false, ⟨"SandKernelModel", "wipeHost", "(I)V"⟩, prog_9_method_14_code, 3, none, { frames := 1, cells := 0, slots := 0, locals := 21 })
def m_M_policy : xk_Y := (false, ⟨"SandKernelModel", "policy", "(II)I"⟩, prog_9_method_19_code, 3, some .int, { frames := 2, cells := 0, slots := 0, locals := 43 })
def m_M_failing : xk_Y := (false, ⟨"SandKernelModel", "failing", "(I)I"⟩, prog_9_method_20_code, 2, some .int, { frames := 2, cells := 0, slots := 0, locals := 43 })
def m_M_open : xk_Y := (false, ⟨"SandKernelModel", "open", "(III)I"⟩, prog_9_method_21_code, 5, some .int, { frames := 3, cells := 0, slots := 0, locals := 67 })
def m_M_alive : xk_Y := (false, ⟨"SandKernelModel", "alive", "(I)Z"⟩, prog_9_method_4_code, 2, some .boolean, { frames := 2, cells := 0, slots := 0, locals := 43 })
def m_M_free : xk_Y := (false, ⟨"SandKernelModel", "free", "(II)I"⟩, prog_9_method_9_code, 4, some .int, { frames := 1, cells := 0, slots := 0, locals := 21 })
def m_M_openings : xk_Y := (false, ⟨"SandKernelModel", "openings", "()I"⟩, prog_9_method_6_code, 3, some .int, { frames := 2, cells := 0, slots := 0, locals := 43 })
def m_M_operate : xk_Y := (false, ⟨"SandKernelModel", "operate", "(III)Z"⟩, prog_9_method_12_code, 6, some .boolean, { frames := 1, cells := 0, slots := 0, locals := 21 })
def m_M_forget : xk_Y := (false, ⟨"SandKernelModel", "forget", "(I)V"⟩, prog_9_method_17_code, 5, none, { frames := 1, cells := 0, slots := 0, locals := 21 })
def m_M_newOpening : xk_Y := (false, ⟨"SandKernelModel", "newOpening", "(III)I"⟩, prog_9_method_10_code, 5, some .int, { frames := 2, cells := 0, slots := 0, locals := 43 })
def m_M_pipe : xk_Y := (false, ⟨"SandKernelModel", "pipe", "(I)I"⟩, prog_9_method_22_code, 5, some .int, { frames := 3, cells := 0, slots := 0, locals := 67 })
def m_M_hasEnd : xk_Y := (false, ⟨"SandKernelModel", "hasEnd", "(II)Z"⟩, prog_9_method_8_code, 4, some .boolean, { frames := 2, cells := 0, slots := 0, locals := 43 })
def m_M_read : xk_Y := (false, ⟨"SandKernelModel", "read", "(II)I"⟩, prog_9_method_23_code, 7, some .int, { frames := 4, cells := 0, slots := 0, locals := 96 })
def m_M_opening : xk_Y := (false, ⟨"SandKernelModel", "opening", "(II)I"⟩, prog_9_method_11_code, 3, some .int, { frames := 3, cells := 0, slots := 0, locals := 64 })
def m_M_get : xk_Y := (false, ⟨"SandKernelModel", "get", "(II)Z"⟩, prog_9_method_16_code, 6, some .boolean, { frames := 3, cells := 0, slots := 0, locals := 71 })
def m_M_toFront : xk_Y := (false, ⟨"SandKernelModel", "toFront", "(I)V"⟩, prog_9_method_15_code, 6, none, { frames := 1, cells := 0, slots := 0, locals := 21 })
def m_M_writeBack : xk_Y := (false, ⟨"SandKernelModel", "writeBack", "(I)Z"⟩, prog_9_method_13_code, 6, some .boolean, { frames := 2, cells := 0, slots := 0, locals := 46 })
def m_M_write : xk_Y := (false, ⟨"SandKernelModel", "write", "(III)I"⟩, prog_9_method_24_code, 7, some .int, { frames := 4, cells := 0, slots := 0, locals := 96 })
def m_M_seek : xk_Y := (false, ⟨"SandKernelModel", "seek", "(III)I"⟩, prog_9_method_25_code, 5, some .int, { frames := 4, cells := 0, slots := 0, locals := 86 })
def m_M_sync : xk_Y := (false, ⟨"SandKernelModel", "sync", "(II)I"⟩, prog_9_method_26_code, 7, some .int, { frames := 4, cells := 0, slots := 0, locals := 86 })
def m_M_dup : xk_Y := (false, ⟨"SandKernelModel", "dup", "(II)I"⟩, prog_9_method_27_code, 5, some .int, { frames := 4, cells := 0, slots := 0, locals := 86 })
def m_M_close : xk_Y := (false, ⟨"SandKernelModel", "close", "(II)I"⟩, prog_9_method_28_code, 4, some .int, { frames := 4, cells := 0, slots := 0, locals := 86 })
def m_M_unlink : xk_Y := (false, ⟨"SandKernelModel", "unlink", "(II)I"⟩, prog_9_method_29_code, 3, some .int, { frames := 3, cells := 0, slots := 0, locals := 65 })
def m_M_fork : xk_Y := (false, ⟨"SandKernelModel", "fork", "(I)I"⟩, prog_9_method_30_code, 4, some .int, { frames := 3, cells := 0, slots := 0, locals := 64 })
def m_M_exit : xk_Y := (false, ⟨"SandKernelModel", "exit", "(II)I"⟩, prog_9_method_31_code, 4, some .int, { frames := 3, cells := 0, slots := 0, locals := 64 })
def m_M_wait : xk_Y := (false, ⟨"SandKernelModel", "wait", "(I)I"⟩, prog_9_method_32_code, 4, some .int, { frames := 3, cells := 0, slots := 0, locals := 64 })
def m_M_crash : xk_Y := (false, ⟨"SandKernelModel", "crash", "()I"⟩, prog_9_method_33_code, 2, some .int, { frames := 2, cells := 0, slots := 0, locals := 42 })
def m_M_host : xk_Y := (false, ⟨"SandKernelModel", "host", "(II)I"⟩, prog_9_method_34_code, 3, some .int, { frames := 2, cells := 0, slots := 0, locals := 43 })
def m_M_log : xk_Y := (false, ⟨"SandKernelModel", "log", "(I)I"⟩, prog_9_method_35_code, 2, some .int, { frames := 2, cells := 0, slots := 0, locals := 43 })
def m_M_cached : xk_Y := (false, ⟨"SandKernelModel", "cached", "(I)I"⟩, prog_9_method_36_code, 2, some .int, { frames := 1, cells := 0, slots := 0, locals := 21 })
def m_M_count : xk_Y := (false, ⟨"SandKernelModel", "count", "(I)I"⟩, prog_9_method_37_code, 5, some .int, { frames := 3, cells := 0, slots := 0, locals := 65 })
def m_law : xk_Y := (true, x, code, 4, ret, room_1)

/-! links, by program -/
theorem fl_K_10 : xk_FL "SandKernel" 10 6 0 := ⟨_, rfl, by decide, Or.inl (xk_in (List.mem_of_getElem? (i := 189) (by decide +kernel)) rfl)⟩
theorem fl_K_21 : xk_FL "SandKernel" 21 6 1 := ⟨_, rfl, by decide, Or.inl (xk_in (List.mem_of_getElem? (i := 190) (by decide +kernel)) rfl)⟩
theorem fl_K_25 : xk_FL "SandKernel" 25 6 2 := ⟨_, rfl, by decide, Or.inl (xk_in (List.mem_of_getElem? (i := 191) (by decide +kernel)) rfl)⟩
theorem fl_K_37 : xk_FL "SandKernel" 37 6 3 := ⟨_, rfl, by decide, Or.inl (xk_in (List.mem_of_getElem? (i := 192) (by decide +kernel)) rfl)⟩
theorem fl_K_44 : xk_FL "SandKernel" 44 6 4 := ⟨_, rfl, by decide, Or.inl (xk_in (List.mem_of_getElem? (i := 193) (by decide +kernel)) rfl)⟩
theorem fl_K_116 : xk_FL "SandKernel" 116 3 4 := ⟨_, rfl, by decide, Or.inr ⟨"SandKernel", List.mem_of_getElem? (i := 10) (by decide +kernel)⟩⟩
theorem fl_K_135 : xk_FL "SandKernel" 135 3 2 := ⟨_, rfl, by decide, Or.inr ⟨"SandKernel", List.mem_of_getElem? (i := 8) (by decide +kernel)⟩⟩
theorem fl_K_142 : xk_FL "SandKernel" 142 3 3 := ⟨_, rfl, by decide, Or.inr ⟨"SandKernel", List.mem_of_getElem? (i := 9) (by decide +kernel)⟩⟩
theorem fl_K_170 : xk_FL "SandKernel" 170 5 1 := ⟨_, rfl, by decide, Or.inr ⟨"SandKernel", List.mem_of_getElem? (i := 12) (by decide +kernel)⟩⟩
theorem fl_K_173 : xk_FL "SandKernel" 173 5 0 := ⟨_, rfl, by decide, Or.inr ⟨"SandKernel", List.mem_of_getElem? (i := 11) (by decide +kernel)⟩⟩
theorem fl_K_179 : xk_FL "SandKernel" 179 5 2 := ⟨_, rfl, by decide, Or.inr ⟨"SandKernel", List.mem_of_getElem? (i := 13) (by decide +kernel)⟩⟩
theorem fl_K_224 : xk_FL "SandKernel" 224 5 3 := ⟨_, rfl, by decide, Or.inr ⟨"SandKernel", List.mem_of_getElem? (i := 14) (by decide +kernel)⟩⟩
theorem fl_K_230 : xk_FL "SandKernel" 230 3 0 := ⟨_, rfl, by decide, Or.inr ⟨"SandKernel", List.mem_of_getElem? (i := 7) (by decide +kernel)⟩⟩
theorem fl_K_243 : xk_FL "SandKernel" 243 0 3 := ⟨_, rfl, by decide, Or.inr ⟨"SandKernel", List.mem_of_getElem? (i := 5) (by decide +kernel)⟩⟩
theorem fl_K_246 : xk_FL "SandKernel" 246 0 2 := ⟨_, rfl, by decide, Or.inr ⟨"SandKernel", List.mem_of_getElem? (i := 3) (by decide +kernel)⟩⟩
theorem fl_Block_9 : xk_FL "SandKernel$Block" 9 0 0 := ⟨_, rfl, by decide, Or.inl (xk_in (List.mem_of_getElem? (i := 97) (by decide +kernel)) rfl)⟩
theorem fl_Block_15 : xk_FL "SandKernel$Block" 15 0 1 := ⟨_, rfl, by decide, Or.inl (xk_in (List.mem_of_getElem? (i := 99) (by decide +kernel)) rfl)⟩
theorem fl_Block_18 : xk_FL "SandKernel$Block" 18 0 2 := ⟨_, rfl, by decide, Or.inl (xk_in (List.mem_of_getElem? (i := 101) (by decide +kernel)) rfl)⟩
theorem fl_Block_22 : xk_FL "SandKernel$Block" 22 0 3 := ⟨_, rfl, by decide, Or.inl (xk_in (List.mem_of_getElem? (i := 104) (by decide +kernel)) rfl)⟩
theorem fl_Cache_9 : xk_FL "SandKernel$Cache" 9 1 1 := ⟨_, rfl, by decide, Or.inl (xk_in (List.mem_of_getElem? (i := 117) (by decide +kernel)) rfl)⟩
theorem fl_Cache_17 : xk_FL "SandKernel$Cache" 17 1 2 := ⟨_, rfl, by decide, Or.inl (xk_in (List.mem_of_getElem? (i := 118) (by decide +kernel)) rfl)⟩
theorem fl_Cache_21 : xk_FL "SandKernel$Cache" 21 1 3 := ⟨_, rfl, by decide, Or.inl (xk_in (List.mem_of_getElem? (i := 119) (by decide +kernel)) rfl)⟩
theorem fl_Cache_25 : xk_FL "SandKernel$Cache" 25 1 0 := ⟨_, rfl, by decide, Or.inl (xk_in (List.mem_of_getElem? (i := 116) (by decide +kernel)) rfl)⟩
theorem fl_Cache_30 : xk_FL "SandKernel$Cache" 30 0 0 := ⟨_, rfl, by decide, Or.inr ⟨"SandKernel", List.mem_of_getElem? (i := 0) (by decide +kernel)⟩⟩
theorem fl_Cache_33 : xk_FL "SandKernel$Cache" 33 0 2 := ⟨_, rfl, by decide, Or.inr ⟨"SandKernel", List.mem_of_getElem? (i := 2) (by decide +kernel)⟩⟩
theorem fl_Cache_62 : xk_FL "SandKernel$Cache" 62 0 3 := ⟨_, rfl, by decide, Or.inr ⟨"SandKernel", List.mem_of_getElem? (i := 4) (by decide +kernel)⟩⟩
theorem fl_Cache_75 : xk_FL "SandKernel$Cache" 75 0 1 := ⟨_, rfl, by decide, Or.inr ⟨"SandKernel", List.mem_of_getElem? (i := 1) (by decide +kernel)⟩⟩
theorem fl_Host_9 : xk_FL "SandKernel$Host" 9 2 0 := ⟨_, rfl, by decide, Or.inl (xk_in (List.mem_of_getElem? (i := 60) (by decide +kernel)) rfl)⟩
theorem fl_Host_15 : xk_FL "SandKernel$Host" 15 2 1 := ⟨_, rfl, by decide, Or.inl (xk_in (List.mem_of_getElem? (i := 61) (by decide +kernel)) rfl)⟩
theorem fl_Host_19 : xk_FL "SandKernel$Host" 19 2 2 := ⟨_, rfl, by decide, Or.inl (xk_in (List.mem_of_getElem? (i := 62) (by decide +kernel)) rfl)⟩
theorem fl_Host_22 : xk_FL "SandKernel$Host" 22 2 3 := ⟨_, rfl, by decide, Or.inl (xk_in (List.mem_of_getElem? (i := 63) (by decide +kernel)) rfl)⟩
theorem fl_Host_25 : xk_FL "SandKernel$Host" 25 2 6 := ⟨_, rfl, by decide, Or.inl (xk_in (List.mem_of_getElem? (i := 64) (by decide +kernel)) rfl)⟩
theorem fl_Host_29 : xk_FL "SandKernel$Host" 29 2 4 := ⟨_, rfl, by decide, Or.inl (xk_in (List.mem_of_getElem? (i := 65) (by decide +kernel)) rfl)⟩
theorem fl_Host_32 : xk_FL "SandKernel$Host" 32 2 5 := ⟨_, rfl, by decide, Or.inl (xk_in (List.mem_of_getElem? (i := 66) (by decide +kernel)) rfl)⟩
theorem fl_Opening_9 : xk_FL "SandKernel$Opening" 9 3 0 := ⟨_, rfl, by decide, Or.inl (xk_in (List.mem_of_getElem? (i := 139) (by decide +kernel)) rfl)⟩
theorem fl_Opening_15 : xk_FL "SandKernel$Opening" 15 3 1 := ⟨_, rfl, by decide, Or.inl (xk_in (List.mem_of_getElem? (i := 142) (by decide +kernel)) rfl)⟩
theorem fl_Opening_18 : xk_FL "SandKernel$Opening" 18 3 2 := ⟨_, rfl, by decide, Or.inl (xk_in (List.mem_of_getElem? (i := 143) (by decide +kernel)) rfl)⟩
theorem fl_Opening_21 : xk_FL "SandKernel$Opening" 21 3 3 := ⟨_, rfl, by decide, Or.inl (xk_in (List.mem_of_getElem? (i := 145) (by decide +kernel)) rfl)⟩
theorem fl_Opening_24 : xk_FL "SandKernel$Opening" 24 3 4 := ⟨_, rfl, by decide, Or.inl (xk_in (List.mem_of_getElem? (i := 147) (by decide +kernel)) rfl)⟩
theorem fl_Opening_36 : xk_FL "SandKernel$Opening" 36 4 3 := ⟨_, rfl, by decide, Or.inr ⟨"SandKernel", List.mem_of_getElem? (i := 15) (by decide +kernel)⟩⟩
theorem fl_Opening_42 : xk_FL "SandKernel$Opening" 42 4 4 := ⟨_, rfl, by decide, Or.inr ⟨"SandKernel", List.mem_of_getElem? (i := 16) (by decide +kernel)⟩⟩
theorem fl_Pipe_9 : xk_FL "SandKernel$Pipe" 9 4 0 := ⟨_, rfl, by decide, Or.inl (xk_in (List.mem_of_getElem? (i := 312) (by decide +kernel)) rfl)⟩
theorem fl_Pipe_15 : xk_FL "SandKernel$Pipe" 15 4 1 := ⟨_, rfl, by decide, Or.inl (xk_in (List.mem_of_getElem? (i := 313) (by decide +kernel)) rfl)⟩
theorem fl_Pipe_19 : xk_FL "SandKernel$Pipe" 19 4 2 := ⟨_, rfl, by decide, Or.inl (xk_in (List.mem_of_getElem? (i := 314) (by decide +kernel)) rfl)⟩
theorem fl_Pipe_22 : xk_FL "SandKernel$Pipe" 22 4 3 := ⟨_, rfl, by decide, Or.inl (xk_in (List.mem_of_getElem? (i := 315) (by decide +kernel)) rfl)⟩
theorem fl_Pipe_26 : xk_FL "SandKernel$Pipe" 26 4 4 := ⟨_, rfl, by decide, Or.inl (xk_in (List.mem_of_getElem? (i := 317) (by decide +kernel)) rfl)⟩
theorem fl_Task_11 : xk_FL "SandKernel$Task" 11 5 0 := ⟨_, rfl, by decide, Or.inl (xk_in (List.mem_of_getElem? (i := 168) (by decide +kernel)) rfl)⟩
theorem fl_Task_15 : xk_FL "SandKernel$Task" 15 5 1 := ⟨_, rfl, by decide, Or.inl (xk_in (List.mem_of_getElem? (i := 170) (by decide +kernel)) rfl)⟩
theorem fl_Task_18 : xk_FL "SandKernel$Task" 18 5 2 := ⟨_, rfl, by decide, Or.inl (xk_in (List.mem_of_getElem? (i := 172) (by decide +kernel)) rfl)⟩
theorem fl_Task_23 : xk_FL "SandKernel$Task" 23 5 3 := ⟨_, rfl, by decide, Or.inl (xk_in (List.mem_of_getElem? (i := 174) (by decide +kernel)) rfl)⟩
theorem fl_Task_30 : xk_FL "SandKernel$Task" 30 3 0 := ⟨_, rfl, by decide, Or.inr ⟨"SandKernel", List.mem_of_getElem? (i := 6) (by decide +kernel)⟩⟩
theorem fl_M_7 : xk_FL "SandKernelModel" 7 7 0 := ⟨_, rfl, by decide, Or.inl (xk_in (List.mem_of_getElem? (i := 576) (by decide +kernel)) rfl)⟩
theorem fl_M_13 : xk_FL "SandKernelModel" 13 7 1 := ⟨_, rfl, by decide, Or.inl (xk_in (List.mem_of_getElem? (i := 577) (by decide +kernel)) rfl)⟩
theorem fl_M_17 : xk_FL "SandKernelModel" 17 7 2 := ⟨_, rfl, by decide, Or.inl (xk_in (List.mem_of_getElem? (i := 578) (by decide +kernel)) rfl)⟩
theorem fl_M_20 : xk_FL "SandKernelModel" 20 7 3 := ⟨_, rfl, by decide, Or.inl (xk_in (List.mem_of_getElem? (i := 579) (by decide +kernel)) rfl)⟩
theorem fl_M_23 : xk_FL "SandKernelModel" 23 7 4 := ⟨_, rfl, by decide, Or.inl (xk_in (List.mem_of_getElem? (i := 580) (by decide +kernel)) rfl)⟩
theorem fl_M_26 : xk_FL "SandKernelModel" 26 7 5 := ⟨_, rfl, by decide, Or.inl (xk_in (List.mem_of_getElem? (i := 581) (by decide +kernel)) rfl)⟩
theorem fl_M_29 : xk_FL "SandKernelModel" 29 7 6 := ⟨_, rfl, by decide, Or.inl (xk_in (List.mem_of_getElem? (i := 582) (by decide +kernel)) rfl)⟩
theorem fl_M_32 : xk_FL "SandKernelModel" 32 7 7 := ⟨_, rfl, by decide, Or.inl (xk_in (List.mem_of_getElem? (i := 583) (by decide +kernel)) rfl)⟩
theorem fl_M_35 : xk_FL "SandKernelModel" 35 7 9 := ⟨_, rfl, by decide, Or.inl (xk_in (List.mem_of_getElem? (i := 585) (by decide +kernel)) rfl)⟩
theorem fl_M_38 : xk_FL "SandKernelModel" 38 7 10 := ⟨_, rfl, by decide, Or.inl (xk_in (List.mem_of_getElem? (i := 586) (by decide +kernel)) rfl)⟩
theorem fl_M_41 : xk_FL "SandKernelModel" 41 7 11 := ⟨_, rfl, by decide, Or.inl (xk_in (List.mem_of_getElem? (i := 587) (by decide +kernel)) rfl)⟩
theorem fl_M_44 : xk_FL "SandKernelModel" 44 7 12 := ⟨_, rfl, by decide, Or.inl (xk_in (List.mem_of_getElem? (i := 588) (by decide +kernel)) rfl)⟩
theorem fl_M_47 : xk_FL "SandKernelModel" 47 7 13 := ⟨_, rfl, by decide, Or.inl (xk_in (List.mem_of_getElem? (i := 589) (by decide +kernel)) rfl)⟩
theorem fl_M_50 : xk_FL "SandKernelModel" 50 7 14 := ⟨_, rfl, by decide, Or.inl (xk_in (List.mem_of_getElem? (i := 590) (by decide +kernel)) rfl)⟩
theorem fl_M_53 : xk_FL "SandKernelModel" 53 7 15 := ⟨_, rfl, by decide, Or.inl (xk_in (List.mem_of_getElem? (i := 591) (by decide +kernel)) rfl)⟩
theorem fl_M_56 : xk_FL "SandKernelModel" 56 7 16 := ⟨_, rfl, by decide, Or.inl (xk_in (List.mem_of_getElem? (i := 592) (by decide +kernel)) rfl)⟩
theorem fl_M_59 : xk_FL "SandKernelModel" 59 7 17 := ⟨_, rfl, by decide, Or.inl (xk_in (List.mem_of_getElem? (i := 593) (by decide +kernel)) rfl)⟩
theorem fl_M_62 : xk_FL "SandKernelModel" 62 7 18 := ⟨_, rfl, by decide, Or.inl (xk_in (List.mem_of_getElem? (i := 594) (by decide +kernel)) rfl)⟩
theorem fl_M_65 : xk_FL "SandKernelModel" 65 7 19 := ⟨_, rfl, by decide, Or.inl (xk_in (List.mem_of_getElem? (i := 595) (by decide +kernel)) rfl)⟩
theorem fl_M_68 : xk_FL "SandKernelModel" 68 7 22 := ⟨_, rfl, by decide, Or.inl (xk_in (List.mem_of_getElem? (i := 598) (by decide +kernel)) rfl)⟩
theorem fl_M_74 : xk_FL "SandKernelModel" 74 7 8 := ⟨_, rfl, by decide, Or.inl (xk_in (List.mem_of_getElem? (i := 584) (by decide +kernel)) rfl)⟩
theorem fl_M_89 : xk_FL "SandKernelModel" 89 7 20 := ⟨_, rfl, by decide, Or.inl (xk_in (List.mem_of_getElem? (i := 596) (by decide +kernel)) rfl)⟩
theorem fl_M_92 : xk_FL "SandKernelModel" 92 7 21 := ⟨_, rfl, by decide, Or.inl (xk_in (List.mem_of_getElem? (i := 597) (by decide +kernel)) rfl)⟩
theorem ml_K_9 : xk_ML "SandKernel" 9 m_Host_init := Or.inr ⟨"SandKernel", List.mem_of_getElem? (i := 17) (by decide +kernel)⟩
theorem ml_K_18 : xk_ML "SandKernel" 18 m_Cache_init := Or.inl (xk_in (List.mem_of_getElem? (i := 86) (by decide +kernel)) rfl)
theorem ml_K_29 : xk_ML "SandKernel" 29 m_Arr_fill2 := Or.inl (xk_in (List.mem_of_getElem? (i := 129) (by decide +kernel)) rfl)
theorem ml_K_41 : xk_ML "SandKernel" 41 m_Opening_init := Or.inr ⟨"SandKernel", List.mem_of_getElem? (i := 19) (by decide +kernel)⟩
theorem ml_K_48 : xk_ML "SandKernel" 48 m_Task_init := Or.inr ⟨"SandKernel", List.mem_of_getElem? (i := 20) (by decide +kernel)⟩
theorem ml_K_49 : xk_ML "SandKernel" 49 m_Task_begin := Or.inl (xk_in (List.mem_of_getElem? (i := 185) (by decide +kernel)) rfl)
theorem ml_K_53 : xk_ML "SandKernel" 53 m_K_isBelow := Or.inl (xk_in (List.mem_of_getElem? (i := 209) (by decide +kernel)) rfl)
theorem ml_K_57 : xk_ML "SandKernel" 57 m_K_isOpen := Or.inl (xk_in (List.mem_of_getElem? (i := 212) (by decide +kernel)) rfl)
theorem ml_K_61 : xk_ML "SandKernel" 61 m_Cache_holdsFile := Or.inl (xk_in (List.mem_of_getElem? (i := 220) (by decide +kernel)) rfl)
theorem ml_K_64 : xk_ML "SandKernel" 64 m_Host_place := Or.inl (xk_in (List.mem_of_getElem? (i := 224) (by decide +kernel)) rfl)
theorem ml_K_68 : xk_ML "SandKernel" 68 m_Cache_setLength := Or.inl (xk_in (List.mem_of_getElem? (i := 238) (by decide +kernel)) rfl)
theorem ml_K_72 : xk_ML "SandKernel" 72 m_Host_setToFail := Or.inl (xk_in (List.mem_of_getElem? (i := 250) (by decide +kernel)) rfl)
theorem ml_K_75 : xk_ML "SandKernel" 75 m_K_isAlive := Or.inl (xk_in (List.mem_of_getElem? (i := 258) (by decide +kernel)) rfl)
theorem ml_K_78 : xk_ML "SandKernel" 78 m_Host_isThere := Or.inl (xk_in (List.mem_of_getElem? (i := 262) (by decide +kernel)) rfl)
theorem ml_K_81 : xk_ML "SandKernel" 81 m_Task_freeFrom := Or.inl (xk_in (List.mem_of_getElem? (i := 266) (by decide +kernel)) rfl)
theorem ml_K_85 : xk_ML "SandKernel" 85 m_K_unusedFrom := Or.inl (xk_in (List.mem_of_getElem? (i := 270) (by decide +kernel)) rfl)
theorem ml_K_88 : xk_ML "SandKernel" 88 m_K_readyFile := Or.inl (xk_in (List.mem_of_getElem? (i := 274) (by decide +kernel)) rfl)
theorem ml_K_91 : xk_ML "SandKernel" 91 m_Opening_becomeFile := Or.inl (xk_in (List.mem_of_getElem? (i := 294) (by decide +kernel)) rfl)
theorem ml_K_94 : xk_ML "SandKernel" 94 m_Task_hold := Or.inl (xk_in (List.mem_of_getElem? (i := 298) (by decide +kernel)) rfl)
theorem ml_K_100 : xk_ML "SandKernel" 100 m_Pipe_init := Or.inr ⟨"SandKernel", List.mem_of_getElem? (i := 21) (by decide +kernel)⟩
theorem ml_K_101 : xk_ML "SandKernel" 101 m_Opening_becomePipeEnd := Or.inl (xk_in (List.mem_of_getElem? (i := 330) (by decide +kernel)) rfl)
theorem ml_K_105 : xk_ML "SandKernel" 105 m_K_openingOf := Or.inl (xk_in (List.mem_of_getElem? (i := 338) (by decide +kernel)) rfl)
theorem ml_K_109 : xk_ML "SandKernel" 109 m_K_whyNoOpening := Or.inl (xk_in (List.mem_of_getElem? (i := 342) (by decide +kernel)) rfl)
theorem ml_K_113 : xk_ML "SandKernel" 113 m_Opening_may := Or.inl (xk_in (List.mem_of_getElem? (i := 346) (by decide +kernel)) rfl)
theorem ml_K_120 : xk_ML "SandKernel" 120 m_K_readFile := Or.inl (xk_in (List.mem_of_getElem? (i := 350) (by decide +kernel)) rfl)
theorem ml_K_124 : xk_ML "SandKernel" 124 m_Pipe_takeCell := Or.inl (xk_in (List.mem_of_getElem? (i := 400) (by decide +kernel)) rfl)
theorem ml_K_128 : xk_ML "SandKernel" 128 m_K_writeFile := Or.inl (xk_in (List.mem_of_getElem? (i := 408) (by decide +kernel)) rfl)
theorem ml_K_132 : xk_ML "SandKernel" 132 m_Pipe_addCell := Or.inl (xk_in (List.mem_of_getElem? (i := 413) (by decide +kernel)) rfl)
theorem ml_K_139 : xk_ML "SandKernel" 139 m_Cache_lengthOf := Or.inl (xk_in (List.mem_of_getElem? (i := 354) (by decide +kernel)) rfl)
theorem ml_K_145 : xk_ML "SandKernel" 145 m_Cache_writeFileOut := Or.inl (xk_in (List.mem_of_getElem? (i := 425) (by decide +kernel)) rfl)
theorem ml_K_148 : xk_ML "SandKernel" 148 m_Task_letGo := Or.inl (xk_in (List.mem_of_getElem? (i := 437) (by decide +kernel)) rfl)
theorem ml_K_151 : xk_ML "SandKernel" 151 m_Host_removeFile := Or.inl (xk_in (List.mem_of_getElem? (i := 454) (by decide +kernel)) rfl)
theorem ml_K_154 : xk_ML "SandKernel" 154 m_Cache_dropFile := Or.inl (xk_in (List.mem_of_getElem? (i := 290) (by decide +kernel)) rfl)
theorem ml_K_157 : xk_ML "SandKernel" 157 m_K_leastNotThere := Or.inl (xk_in (List.mem_of_getElem? (i := 462) (by decide +kernel)) rfl)
theorem ml_K_160 : xk_ML "SandKernel" 160 m_Task_shareAllOf := Or.inl (xk_in (List.mem_of_getElem? (i := 466) (by decide +kernel)) rfl)
theorem ml_K_164 : xk_ML "SandKernel" 164 m_Task_finish := Or.inl (xk_in (List.mem_of_getElem? (i := 475) (by decide +kernel)) rfl)
theorem ml_K_167 : xk_ML "SandKernel" 167 m_Task_isChildOf := Or.inl (xk_in (List.mem_of_getElem? (i := 484) (by decide +kernel)) rfl)
theorem ml_K_176 : xk_ML "SandKernel" 176 m_Task_vanish := Or.inl (xk_in (List.mem_of_getElem? (i := 492) (by decide +kernel)) rfl)
theorem ml_K_182 : xk_ML "SandKernel" 182 m_Cache_startAnew := Or.inl (xk_in (List.mem_of_getElem? (i := 500) (by decide +kernel)) rfl)
theorem ml_K_185 : xk_ML "SandKernel" 185 m_Host_lengthOf := Or.inl (xk_in (List.mem_of_getElem? (i := 512) (by decide +kernel)) rfl)
theorem ml_K_186 : xk_ML "SandKernel" 186 m_Host_cellAt := Or.inl (xk_in (List.mem_of_getElem? (i := 513) (by decide +kernel)) rfl)
theorem ml_K_189 : xk_ML "SandKernel" 189 m_Host_operations := Or.inl (xk_in (List.mem_of_getElem? (i := 521) (by decide +kernel)) rfl)
theorem ml_K_197 : xk_ML "SandKernel" 197 m_Host_entryAt := Or.inl (xk_in (List.mem_of_getElem? (i := 526) (by decide +kernel)) rfl)
theorem ml_K_200 : xk_ML "SandKernel" 200 m_Cache_size := Or.inl (xk_in (List.mem_of_getElem? (i := 534) (by decide +kernel)) rfl)
theorem ml_K_203 : xk_ML "SandKernel" 203 m_Cache_blockAt := Or.inl (xk_in (List.mem_of_getElem? (i := 538) (by decide +kernel)) rfl)
theorem ml_K_207 : xk_ML "SandKernel" 207 m_Block_describe := Or.inl (xk_in (List.mem_of_getElem? (i := 542) (by decide +kernel)) rfl)
theorem ml_K_212 : xk_ML "SandKernel" 212 m_K_openingsThere := Or.inl (xk_in (List.mem_of_getElem? (i := 550) (by decide +kernel)) rfl)
theorem ml_K_215 : xk_ML "SandKernel" 215 m_K_tasksThere := Or.inl (xk_in (List.mem_of_getElem? (i := 554) (by decide +kernel)) rfl)
theorem ml_K_218 : xk_ML "SandKernel" 218 m_Cache_dirtyBlocks := Or.inl (xk_in (List.mem_of_getElem? (i := 558) (by decide +kernel)) rfl)
theorem ml_K_221 : xk_ML "SandKernel" 221 m_Host_leftToFail := Or.inl (xk_in (List.mem_of_getElem? (i := 562) (by decide +kernel)) rfl)
theorem ml_K_227 : xk_ML "SandKernel" 227 m_Opening_isOfFile := Or.inl (xk_in (List.mem_of_getElem? (i := 216) (by decide +kernel)) rfl)
theorem ml_K_233 : xk_ML "SandKernel" 233 m_Host_makeFile := Or.inl (xk_in (List.mem_of_getElem? (i := 278) (by decide +kernel)) rfl)
theorem ml_K_236 : xk_ML "SandKernel" 236 m_Host_emptyFile := Or.inl (xk_in (List.mem_of_getElem? (i := 286) (by decide +kernel)) rfl)
theorem ml_K_239 : xk_ML "SandKernel" 239 m_Cache_getBlock := Or.inl (xk_in (List.mem_of_getElem? (i := 358) (by decide +kernel)) rfl)
theorem ml_Cache_29 : xk_ML "SandKernel$Cache" 29 m_Block_init := Or.inr ⟨"SandKernel", List.mem_of_getElem? (i := 18) (by decide +kernel)⟩
theorem ml_Cache_37 : xk_ML "SandKernel$Cache" 37 m_Cache_find := Or.inl (xk_in (List.mem_of_getElem? (i := 362) (by decide +kernel)) rfl)
theorem ml_Cache_41 : xk_ML "SandKernel$Cache" 41 m_Cache_makeRoom := Or.inl (xk_in (List.mem_of_getElem? (i := 370) (by decide +kernel)) rfl)
theorem ml_Cache_45 : xk_ML "SandKernel$Cache" 45 m_Cache_bringIn := Or.inl (xk_in (List.mem_of_getElem? (i := 388) (by decide +kernel)) rfl)
theorem ml_Cache_49 : xk_ML "SandKernel$Cache" 49 m_Cache_writeOut := Or.inl (xk_in (List.mem_of_getElem? (i := 374) (by decide +kernel)) rfl)
theorem ml_Cache_53 : xk_ML "SandKernel$Cache" 53 m_Host_lengthOf := Or.inl (xk_in (List.mem_of_getElem? (i := 504) (by decide +kernel)) rfl)
theorem ml_Cache_59 : xk_ML "SandKernel$Cache" 59 m_Block_isOf := Or.inl (xk_in (List.mem_of_getElem? (i := 366) (by decide +kernel)) rfl)
theorem ml_Cache_65 : xk_ML "SandKernel$Cache" 65 m_Arr_fill2 := Or.inl (xk_in (List.mem_of_getElem? (i := 392) (by decide +kernel)) rfl)
theorem ml_Cache_71 : xk_ML "SandKernel$Cache" 71 m_Host_readBlock := Or.inl (xk_in (List.mem_of_getElem? (i := 393) (by decide +kernel)) rfl)
theorem ml_Cache_78 : xk_ML "SandKernel$Cache" 78 m_Host_writeBlock := Or.inl (xk_in (List.mem_of_getElem? (i := 378) (by decide +kernel)) rfl)
theorem ml_Host_35 : xk_ML "SandKernel$Host" 35 m_Host_clear := Or.inl (xk_in (List.mem_of_getElem? (i := 228) (by decide +kernel)) rfl)
theorem ml_Host_39 : xk_ML "SandKernel$Host" 39 m_Host_succeeds := Or.inl (xk_in (List.mem_of_getElem? (i := 282) (by decide +kernel)) rfl)
theorem ml_Host_58 : xk_ML "SandKernel$Host" 58 m_Arr_fill4 := Or.inl (xk_in (List.mem_of_getElem? (i := 232) (by decide +kernel)) rfl)
theorem ml_Opening_28 : xk_ML "SandKernel$Opening" 28 m_Opening_leavePipe := Or.inl (xk_in (List.mem_of_getElem? (i := 445) (by decide +kernel)) rfl)
theorem ml_Opening_32 : xk_ML "SandKernel$Opening" 32 m_Opening_may := Or.inl (xk_in (List.mem_of_getElem? (i := 449) (by decide +kernel)) rfl)
theorem ml_Task_27 : xk_ML "SandKernel$Task" 27 m_Task_letGoAll := Or.inl (xk_in (List.mem_of_getElem? (i := 479) (by decide +kernel)) rfl)
theorem ml_Task_33 : xk_ML "SandKernel$Task" 33 m_Opening_loseHolder := Or.inl (xk_in (List.mem_of_getElem? (i := 441) (by decide +kernel)) rfl)
theorem ml_Task_36 : xk_ML "SandKernel$Task" 36 m_Task_hold := Or.inl (xk_in (List.mem_of_getElem? (i := 470) (by decide +kernel)) rfl)
theorem ml_Task_40 : xk_ML "SandKernel$Task" 40 m_Task_letGo := Or.inl (xk_in (List.mem_of_getElem? (i := 483) (by decide +kernel)) rfl)
theorem ml_L_9 : xk_ML "SandKernelLaw" 9 m_K_init := Or.inl (xk_in (List.mem_of_getElem? (i := 48) (by decide +kernel)) rfl)
theorem ml_L_12 : xk_ML "SandKernelLaw" 12 m_M_init := Or.inl (xk_in (List.mem_of_getElem? (i := 568) (by decide +kernel)) rfl)
theorem ml_L_13 : xk_ML "SandKernelLaw" 13 m_K_put := Or.inl (xk_in (List.mem_of_getElem? (i := 205) (by decide +kernel)) rfl)
theorem ml_L_17 : xk_ML "SandKernelLaw" 17 m_M_put := Or.inl (xk_in (List.mem_of_getElem? (i := 646) (by decide +kernel)) rfl)
theorem ml_L_18 : xk_ML "SandKernelLaw" 18 m_K_policy := Or.inl (xk_in (List.mem_of_getElem? (i := 242) (by decide +kernel)) rfl)
theorem ml_L_22 : xk_ML "SandKernelLaw" 22 m_M_policy := Or.inl (xk_in (List.mem_of_getElem? (i := 665) (by decide +kernel)) rfl)
theorem ml_L_23 : xk_ML "SandKernelLaw" 23 m_K_failing := Or.inl (xk_in (List.mem_of_getElem? (i := 246) (by decide +kernel)) rfl)
theorem ml_L_27 : xk_ML "SandKernelLaw" 27 m_M_failing := Or.inl (xk_in (List.mem_of_getElem? (i := 669) (by decide +kernel)) rfl)
theorem ml_L_28 : xk_ML "SandKernelLaw" 28 m_K_open := Or.inl (xk_in (List.mem_of_getElem? (i := 254) (by decide +kernel)) rfl)
theorem ml_L_31 : xk_ML "SandKernelLaw" 31 m_M_open := Or.inl (xk_in (List.mem_of_getElem? (i := 673) (by decide +kernel)) rfl)
theorem ml_L_32 : xk_ML "SandKernelLaw" 32 m_K_pipe := Or.inl (xk_in (List.mem_of_getElem? (i := 302) (by decide +kernel)) rfl)
theorem ml_L_35 : xk_ML "SandKernelLaw" 35 m_M_pipe := Or.inl (xk_in (List.mem_of_getElem? (i := 701) (by decide +kernel)) rfl)
theorem ml_L_36 : xk_ML "SandKernelLaw" 36 m_K_read := Or.inl (xk_in (List.mem_of_getElem? (i := 334) (by decide +kernel)) rfl)
theorem ml_L_39 : xk_ML "SandKernelLaw" 39 m_M_read := Or.inl (xk_in (List.mem_of_getElem? (i := 709) (by decide +kernel)) rfl)
theorem ml_L_40 : xk_ML "SandKernelLaw" 40 m_K_write := Or.inl (xk_in (List.mem_of_getElem? (i := 404) (by decide +kernel)) rfl)
theorem ml_L_43 : xk_ML "SandKernelLaw" 43 m_M_write := Or.inl (xk_in (List.mem_of_getElem? (i := 729) (by decide +kernel)) rfl)
theorem ml_L_44 : xk_ML "SandKernelLaw" 44 m_K_seek := Or.inl (xk_in (List.mem_of_getElem? (i := 417) (by decide +kernel)) rfl)
theorem ml_L_47 : xk_ML "SandKernelLaw" 47 m_M_seek := Or.inl (xk_in (List.mem_of_getElem? (i := 733) (by decide +kernel)) rfl)
theorem ml_L_48 : xk_ML "SandKernelLaw" 48 m_K_sync := Or.inl (xk_in (List.mem_of_getElem? (i := 421) (by decide +kernel)) rfl)
theorem ml_L_51 : xk_ML "SandKernelLaw" 51 m_M_sync := Or.inl (xk_in (List.mem_of_getElem? (i := 737) (by decide +kernel)) rfl)
theorem ml_L_52 : xk_ML "SandKernelLaw" 52 m_K_dup := Or.inl (xk_in (List.mem_of_getElem? (i := 429) (by decide +kernel)) rfl)
theorem ml_L_55 : xk_ML "SandKernelLaw" 55 m_M_dup := Or.inl (xk_in (List.mem_of_getElem? (i := 741) (by decide +kernel)) rfl)
theorem ml_L_56 : xk_ML "SandKernelLaw" 56 m_K_close := Or.inl (xk_in (List.mem_of_getElem? (i := 433) (by decide +kernel)) rfl)
theorem ml_L_59 : xk_ML "SandKernelLaw" 59 m_M_close := Or.inl (xk_in (List.mem_of_getElem? (i := 745) (by decide +kernel)) rfl)
theorem ml_L_60 : xk_ML "SandKernelLaw" 60 m_K_unlink := Or.inl (xk_in (List.mem_of_getElem? (i := 450) (by decide +kernel)) rfl)
theorem ml_L_63 : xk_ML "SandKernelLaw" 63 m_M_unlink := Or.inl (xk_in (List.mem_of_getElem? (i := 749) (by decide +kernel)) rfl)
theorem ml_L_64 : xk_ML "SandKernelLaw" 64 m_K_fork := Or.inl (xk_in (List.mem_of_getElem? (i := 458) (by decide +kernel)) rfl)
theorem ml_L_67 : xk_ML "SandKernelLaw" 67 m_M_fork := Or.inl (xk_in (List.mem_of_getElem? (i := 753) (by decide +kernel)) rfl)
theorem ml_L_68 : xk_ML "SandKernelLaw" 68 m_K_exit := Or.inl (xk_in (List.mem_of_getElem? (i := 471) (by decide +kernel)) rfl)
theorem ml_L_71 : xk_ML "SandKernelLaw" 71 m_M_exit := Or.inl (xk_in (List.mem_of_getElem? (i := 757) (by decide +kernel)) rfl)
theorem ml_L_72 : xk_ML "SandKernelLaw" 72 m_K_wait := Or.inl (xk_in (List.mem_of_getElem? (i := 488) (by decide +kernel)) rfl)
theorem ml_L_75 : xk_ML "SandKernelLaw" 75 m_M_wait := Or.inl (xk_in (List.mem_of_getElem? (i := 761) (by decide +kernel)) rfl)
theorem ml_L_76 : xk_ML "SandKernelLaw" 76 m_K_crash := Or.inl (xk_in (List.mem_of_getElem? (i := 496) (by decide +kernel)) rfl)
theorem ml_L_80 : xk_ML "SandKernelLaw" 80 m_M_crash := Or.inl (xk_in (List.mem_of_getElem? (i := 765) (by decide +kernel)) rfl)
theorem ml_L_81 : xk_ML "SandKernelLaw" 81 m_K_host := Or.inl (xk_in (List.mem_of_getElem? (i := 508) (by decide +kernel)) rfl)
theorem ml_L_84 : xk_ML "SandKernelLaw" 84 m_M_host := Or.inl (xk_in (List.mem_of_getElem? (i := 769) (by decide +kernel)) rfl)
theorem ml_L_85 : xk_ML "SandKernelLaw" 85 m_K_log := Or.inl (xk_in (List.mem_of_getElem? (i := 517) (by decide +kernel)) rfl)
theorem ml_L_88 : xk_ML "SandKernelLaw" 88 m_M_log := Or.inl (xk_in (List.mem_of_getElem? (i := 773) (by decide +kernel)) rfl)
theorem ml_L_89 : xk_ML "SandKernelLaw" 89 m_K_cached := Or.inl (xk_in (List.mem_of_getElem? (i := 530) (by decide +kernel)) rfl)
theorem ml_L_92 : xk_ML "SandKernelLaw" 92 m_M_cached := Or.inl (xk_in (List.mem_of_getElem? (i := 777) (by decide +kernel)) rfl)
theorem ml_L_93 : xk_ML "SandKernelLaw" 93 m_K_count := Or.inl (xk_in (List.mem_of_getElem? (i := 546) (by decide +kernel)) rfl)
theorem ml_L_96 : xk_ML "SandKernelLaw" 96 m_M_count := Or.inl (xk_in (List.mem_of_getElem? (i := 781) (by decide +kernel)) rfl)
theorem ml_M_71 : xk_ML "SandKernelModel" 71 m_M_reborn := Or.inl (xk_in (List.mem_of_getElem? (i := 572) (by decide +kernel)) rfl)
theorem ml_M_78 : xk_ML "SandKernelModel" 78 m_M_in := Or.inl (xk_in (List.mem_of_getElem? (i := 650) (by decide +kernel)) rfl)
theorem ml_M_82 : xk_ML "SandKernelModel" 82 m_M_used := Or.inl (xk_in (List.mem_of_getElem? (i := 657) (by decide +kernel)) rfl)
theorem ml_M_86 : xk_ML "SandKernelModel" 86 m_M_alive := Or.inl (xk_in (List.mem_of_getElem? (i := 677) (by decide +kernel)) rfl)
theorem ml_M_95 : xk_ML "SandKernelModel" 95 m_M_operate := Or.inl (xk_in (List.mem_of_getElem? (i := 689) (by decide +kernel)) rfl)
theorem ml_M_98 : xk_ML "SandKernelModel" 98 m_M_toFront := Or.inl (xk_in (List.mem_of_getElem? (i := 721) (by decide +kernel)) rfl)
theorem ml_M_102 : xk_ML "SandKernelModel" 102 m_M_writeBack := Or.inl (xk_in (List.mem_of_getElem? (i := 725) (by decide +kernel)) rfl)
theorem ml_M_105 : xk_ML "SandKernelModel" 105 m_M_openFile := Or.inl (xk_in (List.mem_of_getElem? (i := 653) (by decide +kernel)) rfl)
theorem ml_M_108 : xk_ML "SandKernelModel" 108 m_M_wipeHost := Or.inl (xk_in (List.mem_of_getElem? (i := 661) (by decide +kernel)) rfl)
theorem ml_M_111 : xk_ML "SandKernelModel" 111 m_M_free := Or.inl (xk_in (List.mem_of_getElem? (i := 681) (by decide +kernel)) rfl)
theorem ml_M_115 : xk_ML "SandKernelModel" 115 m_M_openings := Or.inl (xk_in (List.mem_of_getElem? (i := 685) (by decide +kernel)) rfl)
theorem ml_M_119 : xk_ML "SandKernelModel" 119 m_M_forget := Or.inl (xk_in (List.mem_of_getElem? (i := 693) (by decide +kernel)) rfl)
theorem ml_M_122 : xk_ML "SandKernelModel" 122 m_M_newOpening := Or.inl (xk_in (List.mem_of_getElem? (i := 697) (by decide +kernel)) rfl)
theorem ml_M_126 : xk_ML "SandKernelModel" 126 m_M_hasEnd := Or.inl (xk_in (List.mem_of_getElem? (i := 705) (by decide +kernel)) rfl)
theorem ml_M_130 : xk_ML "SandKernelModel" 130 m_M_opening := Or.inl (xk_in (List.mem_of_getElem? (i := 713) (by decide +kernel)) rfl)
theorem ml_M_133 : xk_ML "SandKernelModel" 133 m_M_get := Or.inl (xk_in (List.mem_of_getElem? (i := 717) (by decide +kernel)) rfl)
theorem ml_Arr_13 : xk_ML "java/util/Arrays" 13 m_Arr_rangeCheck := Or.inl (xk_in (List.mem_of_getElem? (i := 235) (by decide +kernel)) rfl)
theorem mo_K_init : xk_mok m_K_init 0 := ⟨rfl, by decide, (xk_in (List.mem_of_getElem? (i := 50) (by decide +kernel)) rfl), (xk_in (List.mem_of_getElem? (i := 35) (by decide +kernel)) rfl), ⟨by decide, by decide⟩, by decide +kernel⟩
theorem cz_K_init : xk_CI m_K_init 0 := ⟨mo_K_init, rfl, rfl, (xk_in (List.mem_of_getElem? (i := 49) (by decide +kernel)) rfl), by decide⟩
theorem mo_Host_init : xk_mok m_Host_init 0 := ⟨rfl, by decide, (xk_in (List.mem_of_getElem? (i := 58) (by decide +kernel)) rfl), (xk_in (List.mem_of_getElem? (i := 36) (by decide +kernel)) rfl), ⟨by decide, by decide⟩, by decide +kernel⟩
theorem cz_Host_init : xk_CI m_Host_init 0 := ⟨mo_Host_init, rfl, rfl, (xk_in (List.mem_of_getElem? (i := 57) (by decide +kernel)) rfl), by decide⟩
theorem mo_Cache_init : xk_mok m_Cache_init 1 := ⟨rfl, by decide, (xk_in (List.mem_of_getElem? (i := 88) (by decide +kernel)) rfl), (xk_in (List.mem_of_getElem? (i := 37) (by decide +kernel)) rfl), ⟨by decide, by decide⟩, by decide +kernel⟩
theorem cz_Cache_init : xk_CI m_Cache_init 1 := ⟨mo_Cache_init, rfl, rfl, (xk_in (List.mem_of_getElem? (i := 87) (by decide +kernel)) rfl), by decide⟩
theorem mo_Block_init : xk_mok m_Block_init 0 := ⟨rfl, by decide, (xk_in (List.mem_of_getElem? (i := 95) (by decide +kernel)) rfl), (xk_in (List.mem_of_getElem? (i := 38) (by decide +kernel)) rfl), ⟨by decide, by decide⟩, by decide +kernel⟩
theorem cz_Block_init : xk_CI m_Block_init 0 := ⟨mo_Block_init, rfl, rfl, (xk_in (List.mem_of_getElem? (i := 94) (by decide +kernel)) rfl), by decide⟩
theorem mo_Arr_fill2 : xk_mok m_Arr_fill2 2 := ⟨rfl, by decide, (xk_in (List.mem_of_getElem? (i := 131) (by decide +kernel)) rfl), (xk_in (List.mem_of_getElem? (i := 39) (by decide +kernel)) rfl), ⟨by decide, by decide⟩, by decide +kernel⟩
theorem cz_Arr_fill2 : xk_CS m_Arr_fill2 2 := ⟨mo_Arr_fill2, (xk_in (List.mem_of_getElem? (i := 130) (by decide +kernel)) rfl), by decide⟩
theorem mo_Opening_init : xk_mok m_Opening_init 0 := ⟨rfl, by decide, (xk_in (List.mem_of_getElem? (i := 137) (by decide +kernel)) rfl), (xk_in (List.mem_of_getElem? (i := 40) (by decide +kernel)) rfl), ⟨by decide, by decide⟩, by decide +kernel⟩
theorem cz_Opening_init : xk_CI m_Opening_init 0 := ⟨mo_Opening_init, rfl, rfl, (xk_in (List.mem_of_getElem? (i := 136) (by decide +kernel)) rfl), by decide⟩
theorem mo_Task_init : xk_mok m_Task_init 0 := ⟨rfl, by decide, (xk_in (List.mem_of_getElem? (i := 165) (by decide +kernel)) rfl), (xk_in (List.mem_of_getElem? (i := 41) (by decide +kernel)) rfl), ⟨by decide, by decide⟩, by decide +kernel⟩
theorem cz_Task_init : xk_CI m_Task_init 0 := ⟨mo_Task_init, rfl, rfl, (xk_in (List.mem_of_getElem? (i := 164) (by decide +kernel)) rfl), by decide⟩
theorem mo_Task_begin : xk_mok m_Task_begin 1 := ⟨rfl, by decide, (xk_in (List.mem_of_getElem? (i := 188) (by decide +kernel)) rfl), (xk_in (List.mem_of_getElem? (i := 41) (by decide +kernel)) rfl), ⟨by decide, by decide⟩, by decide +kernel⟩
theorem cz_Task_begin : xk_CV m_Task_begin 5 1 := ⟨mo_Task_begin, (xk_in (List.mem_of_getElem? (i := 186) (by decide +kernel)) rfl), (xk_in (List.mem_of_getElem? (i := 187) (by decide +kernel)) rfl), ⟨_, rfl, rfl⟩, by decide⟩
theorem mo_K_put : xk_mok m_K_put 3 := ⟨rfl, by decide, (xk_in (List.mem_of_getElem? (i := 208) (by decide +kernel)) rfl), (xk_in (List.mem_of_getElem? (i := 35) (by decide +kernel)) rfl), ⟨by decide, by decide⟩, by decide +kernel⟩
theorem cz_K_put : xk_CV m_K_put 6 3 := ⟨mo_K_put, (xk_in (List.mem_of_getElem? (i := 206) (by decide +kernel)) rfl), (xk_in (List.mem_of_getElem? (i := 207) (by decide +kernel)) rfl), ⟨_, rfl, rfl⟩, by decide⟩
theorem mo_K_isBelow : xk_mok m_K_isBelow 2 := ⟨rfl, by decide, (xk_in (List.mem_of_getElem? (i := 211) (by decide +kernel)) rfl), (xk_in (List.mem_of_getElem? (i := 35) (by decide +kernel)) rfl), ⟨by decide, by decide⟩, by decide +kernel⟩
theorem cz_K_isBelow : xk_CS m_K_isBelow 2 := ⟨mo_K_isBelow, (xk_in (List.mem_of_getElem? (i := 210) (by decide +kernel)) rfl), by decide⟩
theorem mo_K_isOpen : xk_mok m_K_isOpen 1 := ⟨rfl, by decide, (xk_in (List.mem_of_getElem? (i := 215) (by decide +kernel)) rfl), (xk_in (List.mem_of_getElem? (i := 35) (by decide +kernel)) rfl), ⟨by decide, by decide⟩, by decide +kernel⟩
theorem cz_K_isOpen : xk_CV m_K_isOpen 6 1 := ⟨mo_K_isOpen, (xk_in (List.mem_of_getElem? (i := 214) (by decide +kernel)) rfl), (xk_in (List.mem_of_getElem? (i := 0) (by decide +kernel)) rfl), ⟨_, rfl, rfl⟩, by decide⟩
theorem mo_Opening_isOfFile : xk_mok m_Opening_isOfFile 1 := ⟨rfl, by decide, (xk_in (List.mem_of_getElem? (i := 219) (by decide +kernel)) rfl), (xk_in (List.mem_of_getElem? (i := 40) (by decide +kernel)) rfl), ⟨by decide, by decide⟩, by decide +kernel⟩
theorem cz_Opening_isOfFile : xk_CV m_Opening_isOfFile 3 1 := ⟨mo_Opening_isOfFile, (xk_in (List.mem_of_getElem? (i := 217) (by decide +kernel)) rfl), (xk_in (List.mem_of_getElem? (i := 218) (by decide +kernel)) rfl), ⟨_, rfl, rfl⟩, by decide⟩
theorem mo_Cache_holdsFile : xk_mok m_Cache_holdsFile 1 := ⟨rfl, by decide, (xk_in (List.mem_of_getElem? (i := 223) (by decide +kernel)) rfl), (xk_in (List.mem_of_getElem? (i := 37) (by decide +kernel)) rfl), ⟨by decide, by decide⟩, by decide +kernel⟩
theorem cz_Cache_holdsFile : xk_CV m_Cache_holdsFile 1 1 := ⟨mo_Cache_holdsFile, (xk_in (List.mem_of_getElem? (i := 221) (by decide +kernel)) rfl), (xk_in (List.mem_of_getElem? (i := 222) (by decide +kernel)) rfl), ⟨_, rfl, rfl⟩, by decide⟩
theorem mo_Host_place : xk_mok m_Host_place 3 := ⟨rfl, by decide, (xk_in (List.mem_of_getElem? (i := 227) (by decide +kernel)) rfl), (xk_in (List.mem_of_getElem? (i := 36) (by decide +kernel)) rfl), ⟨by decide, by decide⟩, by decide +kernel⟩
theorem cz_Host_place : xk_CV m_Host_place 2 3 := ⟨mo_Host_place, (xk_in (List.mem_of_getElem? (i := 225) (by decide +kernel)) rfl), (xk_in (List.mem_of_getElem? (i := 226) (by decide +kernel)) rfl), ⟨_, rfl, rfl⟩, by decide⟩
theorem mo_Host_clear : xk_mok m_Host_clear 1 := ⟨rfl, by decide, (xk_in (List.mem_of_getElem? (i := 231) (by decide +kernel)) rfl), (xk_in (List.mem_of_getElem? (i := 36) (by decide +kernel)) rfl), ⟨by decide, by decide⟩, by decide +kernel⟩
theorem cz_Host_clear : xk_CV m_Host_clear 2 1 := ⟨mo_Host_clear, (xk_in (List.mem_of_getElem? (i := 230) (by decide +kernel)) rfl), (xk_in (List.mem_of_getElem? (i := 1) (by decide +kernel)) rfl), ⟨_, rfl, rfl⟩, by decide⟩
theorem mo_Arr_fill4 : xk_mok m_Arr_fill4 4 := ⟨rfl, by decide, (xk_in (List.mem_of_getElem? (i := 234) (by decide +kernel)) rfl), (xk_in (List.mem_of_getElem? (i := 39) (by decide +kernel)) rfl), ⟨by decide, by decide⟩, by decide +kernel⟩
theorem cz_Arr_fill4 : xk_CS m_Arr_fill4 4 := ⟨mo_Arr_fill4, (xk_in (List.mem_of_getElem? (i := 233) (by decide +kernel)) rfl), by decide⟩
theorem mo_Arr_rangeCheck : xk_mok m_Arr_rangeCheck 3 := ⟨rfl, by decide, (xk_in (List.mem_of_getElem? (i := 237) (by decide +kernel)) rfl), (xk_in (List.mem_of_getElem? (i := 39) (by decide +kernel)) rfl), ⟨by decide, by decide⟩, by decide +kernel⟩
theorem cz_Arr_rangeCheck : xk_CS m_Arr_rangeCheck 3 := ⟨mo_Arr_rangeCheck, (xk_in (List.mem_of_getElem? (i := 236) (by decide +kernel)) rfl), by decide⟩
theorem mo_Cache_setLength : xk_mok m_Cache_setLength 2 := ⟨rfl, by decide, (xk_in (List.mem_of_getElem? (i := 241) (by decide +kernel)) rfl), (xk_in (List.mem_of_getElem? (i := 37) (by decide +kernel)) rfl), ⟨by decide, by decide⟩, by decide +kernel⟩
theorem cz_Cache_setLength : xk_CV m_Cache_setLength 1 2 := ⟨mo_Cache_setLength, (xk_in (List.mem_of_getElem? (i := 239) (by decide +kernel)) rfl), (xk_in (List.mem_of_getElem? (i := 240) (by decide +kernel)) rfl), ⟨_, rfl, rfl⟩, by decide⟩
theorem mo_K_policy : xk_mok m_K_policy 2 := ⟨rfl, by decide, (xk_in (List.mem_of_getElem? (i := 245) (by decide +kernel)) rfl), (xk_in (List.mem_of_getElem? (i := 35) (by decide +kernel)) rfl), ⟨by decide, by decide⟩, by decide +kernel⟩
theorem cz_K_policy : xk_CV m_K_policy 6 2 := ⟨mo_K_policy, (xk_in (List.mem_of_getElem? (i := 243) (by decide +kernel)) rfl), (xk_in (List.mem_of_getElem? (i := 244) (by decide +kernel)) rfl), ⟨_, rfl, rfl⟩, by decide⟩
theorem mo_K_failing : xk_mok m_K_failing 1 := ⟨rfl, by decide, (xk_in (List.mem_of_getElem? (i := 249) (by decide +kernel)) rfl), (xk_in (List.mem_of_getElem? (i := 35) (by decide +kernel)) rfl), ⟨by decide, by decide⟩, by decide +kernel⟩
theorem cz_K_failing : xk_CV m_K_failing 6 1 := ⟨mo_K_failing, (xk_in (List.mem_of_getElem? (i := 247) (by decide +kernel)) rfl), (xk_in (List.mem_of_getElem? (i := 248) (by decide +kernel)) rfl), ⟨_, rfl, rfl⟩, by decide⟩
theorem mo_Host_setToFail : xk_mok m_Host_setToFail 1 := ⟨rfl, by decide, (xk_in (List.mem_of_getElem? (i := 253) (by decide +kernel)) rfl), (xk_in (List.mem_of_getElem? (i := 36) (by decide +kernel)) rfl), ⟨by decide, by decide⟩, by decide +kernel⟩
theorem cz_Host_setToFail : xk_CV m_Host_setToFail 2 1 := ⟨mo_Host_setToFail, (xk_in (List.mem_of_getElem? (i := 251) (by decide +kernel)) rfl), (xk_in (List.mem_of_getElem? (i := 252) (by decide +kernel)) rfl), ⟨_, rfl, rfl⟩, by decide⟩
theorem mo_K_open : xk_mok m_K_open 3 := ⟨rfl, by decide, (xk_in (List.mem_of_getElem? (i := 257) (by decide +kernel)) rfl), (xk_in (List.mem_of_getElem? (i := 35) (by decide +kernel)) rfl), ⟨by decide, by decide⟩, by decide +kernel⟩
theorem cz_K_open : xk_CV m_K_open 6 3 := ⟨mo_K_open, (xk_in (List.mem_of_getElem? (i := 255) (by decide +kernel)) rfl), (xk_in (List.mem_of_getElem? (i := 256) (by decide +kernel)) rfl), ⟨_, rfl, rfl⟩, by decide⟩
theorem mo_K_isAlive : xk_mok m_K_isAlive 1 := ⟨rfl, by decide, (xk_in (List.mem_of_getElem? (i := 261) (by decide +kernel)) rfl), (xk_in (List.mem_of_getElem? (i := 35) (by decide +kernel)) rfl), ⟨by decide, by decide⟩, by decide +kernel⟩
theorem cz_K_isAlive : xk_CV m_K_isAlive 6 1 := ⟨mo_K_isAlive, (xk_in (List.mem_of_getElem? (i := 260) (by decide +kernel)) rfl), (xk_in (List.mem_of_getElem? (i := 2) (by decide +kernel)) rfl), ⟨_, rfl, rfl⟩, by decide⟩
theorem mo_Host_isThere : xk_mok m_Host_isThere 1 := ⟨rfl, by decide, (xk_in (List.mem_of_getElem? (i := 265) (by decide +kernel)) rfl), (xk_in (List.mem_of_getElem? (i := 36) (by decide +kernel)) rfl), ⟨by decide, by decide⟩, by decide +kernel⟩
theorem cz_Host_isThere : xk_CV m_Host_isThere 2 1 := ⟨mo_Host_isThere, (xk_in (List.mem_of_getElem? (i := 263) (by decide +kernel)) rfl), (xk_in (List.mem_of_getElem? (i := 264) (by decide +kernel)) rfl), ⟨_, rfl, rfl⟩, by decide⟩
theorem mo_Task_freeFrom : xk_mok m_Task_freeFrom 1 := ⟨rfl, by decide, (xk_in (List.mem_of_getElem? (i := 269) (by decide +kernel)) rfl), (xk_in (List.mem_of_getElem? (i := 41) (by decide +kernel)) rfl), ⟨by decide, by decide⟩, by decide +kernel⟩
theorem cz_Task_freeFrom : xk_CV m_Task_freeFrom 5 1 := ⟨mo_Task_freeFrom, (xk_in (List.mem_of_getElem? (i := 267) (by decide +kernel)) rfl), (xk_in (List.mem_of_getElem? (i := 268) (by decide +kernel)) rfl), ⟨_, rfl, rfl⟩, by decide⟩
theorem mo_K_unusedFrom : xk_mok m_K_unusedFrom 1 := ⟨rfl, by decide, (xk_in (List.mem_of_getElem? (i := 273) (by decide +kernel)) rfl), (xk_in (List.mem_of_getElem? (i := 35) (by decide +kernel)) rfl), ⟨by decide, by decide⟩, by decide +kernel⟩
theorem cz_K_unusedFrom : xk_CV m_K_unusedFrom 6 1 := ⟨mo_K_unusedFrom, (xk_in (List.mem_of_getElem? (i := 272) (by decide +kernel)) rfl), (xk_in (List.mem_of_getElem? (i := 3) (by decide +kernel)) rfl), ⟨_, rfl, rfl⟩, by decide⟩
theorem mo_K_readyFile : xk_mok m_K_readyFile 2 := ⟨rfl, by decide, (xk_in (List.mem_of_getElem? (i := 277) (by decide +kernel)) rfl), (xk_in (List.mem_of_getElem? (i := 35) (by decide +kernel)) rfl), ⟨by decide, by decide⟩, by decide +kernel⟩
theorem cz_K_readyFile : xk_CV m_K_readyFile 6 2 := ⟨mo_K_readyFile, (xk_in (List.mem_of_getElem? (i := 276) (by decide +kernel)) rfl), (xk_in (List.mem_of_getElem? (i := 4) (by decide +kernel)) rfl), ⟨_, rfl, rfl⟩, by decide⟩
theorem mo_Host_makeFile : xk_mok m_Host_makeFile 1 := ⟨rfl, by decide, (xk_in (List.mem_of_getElem? (i := 281) (by decide +kernel)) rfl), (xk_in (List.mem_of_getElem? (i := 36) (by decide +kernel)) rfl), ⟨by decide, by decide⟩, by decide +kernel⟩
theorem cz_Host_makeFile : xk_CV m_Host_makeFile 2 1 := ⟨mo_Host_makeFile, (xk_in (List.mem_of_getElem? (i := 279) (by decide +kernel)) rfl), (xk_in (List.mem_of_getElem? (i := 280) (by decide +kernel)) rfl), ⟨_, rfl, rfl⟩, by decide⟩
theorem mo_Host_succeeds : xk_mok m_Host_succeeds 3 := ⟨rfl, by decide, (xk_in (List.mem_of_getElem? (i := 285) (by decide +kernel)) rfl), (xk_in (List.mem_of_getElem? (i := 36) (by decide +kernel)) rfl), ⟨by decide, by decide⟩, by decide +kernel⟩
theorem cz_Host_succeeds : xk_CV m_Host_succeeds 2 3 := ⟨mo_Host_succeeds, (xk_in (List.mem_of_getElem? (i := 284) (by decide +kernel)) rfl), (xk_in (List.mem_of_getElem? (i := 5) (by decide +kernel)) rfl), ⟨_, rfl, rfl⟩, by decide⟩
theorem mo_Host_emptyFile : xk_mok m_Host_emptyFile 1 := ⟨rfl, by decide, (xk_in (List.mem_of_getElem? (i := 289) (by decide +kernel)) rfl), (xk_in (List.mem_of_getElem? (i := 36) (by decide +kernel)) rfl), ⟨by decide, by decide⟩, by decide +kernel⟩
theorem cz_Host_emptyFile : xk_CV m_Host_emptyFile 2 1 := ⟨mo_Host_emptyFile, (xk_in (List.mem_of_getElem? (i := 287) (by decide +kernel)) rfl), (xk_in (List.mem_of_getElem? (i := 288) (by decide +kernel)) rfl), ⟨_, rfl, rfl⟩, by decide⟩
theorem mo_Cache_dropFile : xk_mok m_Cache_dropFile 1 := ⟨rfl, by decide, (xk_in (List.mem_of_getElem? (i := 293) (by decide +kernel)) rfl), (xk_in (List.mem_of_getElem? (i := 37) (by decide +kernel)) rfl), ⟨by decide, by decide⟩, by decide +kernel⟩
theorem cz_Cache_dropFile : xk_CV m_Cache_dropFile 1 1 := ⟨mo_Cache_dropFile, (xk_in (List.mem_of_getElem? (i := 291) (by decide +kernel)) rfl), (xk_in (List.mem_of_getElem? (i := 292) (by decide +kernel)) rfl), ⟨_, rfl, rfl⟩, by decide⟩
theorem mo_Opening_becomeFile : xk_mok m_Opening_becomeFile 2 := ⟨rfl, by decide, (xk_in (List.mem_of_getElem? (i := 297) (by decide +kernel)) rfl), (xk_in (List.mem_of_getElem? (i := 40) (by decide +kernel)) rfl), ⟨by decide, by decide⟩, by decide +kernel⟩
theorem cz_Opening_becomeFile : xk_CV m_Opening_becomeFile 3 2 := ⟨mo_Opening_becomeFile, (xk_in (List.mem_of_getElem? (i := 295) (by decide +kernel)) rfl), (xk_in (List.mem_of_getElem? (i := 296) (by decide +kernel)) rfl), ⟨_, rfl, rfl⟩, by decide⟩
theorem mo_Task_hold : xk_mok m_Task_hold 2 := ⟨rfl, by decide, (xk_in (List.mem_of_getElem? (i := 301) (by decide +kernel)) rfl), (xk_in (List.mem_of_getElem? (i := 41) (by decide +kernel)) rfl), ⟨by decide, by decide⟩, by decide +kernel⟩
theorem cz_Task_hold : xk_CV m_Task_hold 5 2 := ⟨mo_Task_hold, (xk_in (List.mem_of_getElem? (i := 299) (by decide +kernel)) rfl), (xk_in (List.mem_of_getElem? (i := 300) (by decide +kernel)) rfl), ⟨_, rfl, rfl⟩, by decide⟩
theorem mo_K_pipe : xk_mok m_K_pipe 1 := ⟨rfl, by decide, (xk_in (List.mem_of_getElem? (i := 305) (by decide +kernel)) rfl), (xk_in (List.mem_of_getElem? (i := 35) (by decide +kernel)) rfl), ⟨by decide, by decide⟩, by decide +kernel⟩
theorem cz_K_pipe : xk_CV m_K_pipe 6 1 := ⟨mo_K_pipe, (xk_in (List.mem_of_getElem? (i := 303) (by decide +kernel)) rfl), (xk_in (List.mem_of_getElem? (i := 304) (by decide +kernel)) rfl), ⟨_, rfl, rfl⟩, by decide⟩
theorem mo_Pipe_init : xk_mok m_Pipe_init 0 := ⟨rfl, by decide, (xk_in (List.mem_of_getElem? (i := 310) (by decide +kernel)) rfl), (xk_in (List.mem_of_getElem? (i := 43) (by decide +kernel)) rfl), ⟨by decide, by decide⟩, by decide +kernel⟩
theorem cz_Pipe_init : xk_CI m_Pipe_init 0 := ⟨mo_Pipe_init, rfl, rfl, (xk_in (List.mem_of_getElem? (i := 309) (by decide +kernel)) rfl), by decide⟩
theorem mo_Opening_becomePipeEnd : xk_mok m_Opening_becomePipeEnd 2 := ⟨rfl, by decide, (xk_in (List.mem_of_getElem? (i := 333) (by decide +kernel)) rfl), (xk_in (List.mem_of_getElem? (i := 40) (by decide +kernel)) rfl), ⟨by decide, by decide⟩, by decide +kernel⟩
theorem cz_Opening_becomePipeEnd : xk_CV m_Opening_becomePipeEnd 3 2 := ⟨mo_Opening_becomePipeEnd, (xk_in (List.mem_of_getElem? (i := 331) (by decide +kernel)) rfl), (xk_in (List.mem_of_getElem? (i := 332) (by decide +kernel)) rfl), ⟨_, rfl, rfl⟩, by decide⟩
theorem mo_K_read : xk_mok m_K_read 2 := ⟨rfl, by decide, (xk_in (List.mem_of_getElem? (i := 337) (by decide +kernel)) rfl), (xk_in (List.mem_of_getElem? (i := 35) (by decide +kernel)) rfl), ⟨by decide, by decide⟩, by decide +kernel⟩
theorem cz_K_read : xk_CV m_K_read 6 2 := ⟨mo_K_read, (xk_in (List.mem_of_getElem? (i := 335) (by decide +kernel)) rfl), (xk_in (List.mem_of_getElem? (i := 336) (by decide +kernel)) rfl), ⟨_, rfl, rfl⟩, by decide⟩
theorem mo_K_openingOf : xk_mok m_K_openingOf 2 := ⟨rfl, by decide, (xk_in (List.mem_of_getElem? (i := 341) (by decide +kernel)) rfl), (xk_in (List.mem_of_getElem? (i := 35) (by decide +kernel)) rfl), ⟨by decide, by decide⟩, by decide +kernel⟩
theorem cz_K_openingOf : xk_CV m_K_openingOf 6 2 := ⟨mo_K_openingOf, (xk_in (List.mem_of_getElem? (i := 340) (by decide +kernel)) rfl), (xk_in (List.mem_of_getElem? (i := 6) (by decide +kernel)) rfl), ⟨_, rfl, rfl⟩, by decide⟩
theorem mo_K_whyNoOpening : xk_mok m_K_whyNoOpening 2 := ⟨rfl, by decide, (xk_in (List.mem_of_getElem? (i := 345) (by decide +kernel)) rfl), (xk_in (List.mem_of_getElem? (i := 35) (by decide +kernel)) rfl), ⟨by decide, by decide⟩, by decide +kernel⟩
theorem cz_K_whyNoOpening : xk_CV m_K_whyNoOpening 6 2 := ⟨mo_K_whyNoOpening, (xk_in (List.mem_of_getElem? (i := 344) (by decide +kernel)) rfl), (xk_in (List.mem_of_getElem? (i := 7) (by decide +kernel)) rfl), ⟨_, rfl, rfl⟩, by decide⟩
theorem mo_Opening_may : xk_mok m_Opening_may 1 := ⟨rfl, by decide, (xk_in (List.mem_of_getElem? (i := 349) (by decide +kernel)) rfl), (xk_in (List.mem_of_getElem? (i := 40) (by decide +kernel)) rfl), ⟨by decide, by decide⟩, by decide +kernel⟩
theorem cz_Opening_may : xk_CV m_Opening_may 3 1 := ⟨mo_Opening_may, (xk_in (List.mem_of_getElem? (i := 347) (by decide +kernel)) rfl), (xk_in (List.mem_of_getElem? (i := 348) (by decide +kernel)) rfl), ⟨_, rfl, rfl⟩, by decide⟩
theorem mo_K_readFile : xk_mok m_K_readFile 1 := ⟨rfl, by decide, (xk_in (List.mem_of_getElem? (i := 353) (by decide +kernel)) rfl), (xk_in (List.mem_of_getElem? (i := 35) (by decide +kernel)) rfl), ⟨by decide, by decide⟩, by decide +kernel⟩
theorem cz_K_readFile : xk_CV m_K_readFile 6 1 := ⟨mo_K_readFile, (xk_in (List.mem_of_getElem? (i := 352) (by decide +kernel)) rfl), (xk_in (List.mem_of_getElem? (i := 8) (by decide +kernel)) rfl), ⟨_, rfl, rfl⟩, by decide⟩
theorem mo_Cache_lengthOf : xk_mok m_Cache_lengthOf 1 := ⟨rfl, by decide, (xk_in (List.mem_of_getElem? (i := 357) (by decide +kernel)) rfl), (xk_in (List.mem_of_getElem? (i := 37) (by decide +kernel)) rfl), ⟨by decide, by decide⟩, by decide +kernel⟩
theorem cz_Cache_lengthOf : xk_CV m_Cache_lengthOf 1 1 := ⟨mo_Cache_lengthOf, (xk_in (List.mem_of_getElem? (i := 355) (by decide +kernel)) rfl), (xk_in (List.mem_of_getElem? (i := 356) (by decide +kernel)) rfl), ⟨_, rfl, rfl⟩, by decide⟩
theorem mo_Cache_getBlock : xk_mok m_Cache_getBlock 2 := ⟨rfl, by decide, (xk_in (List.mem_of_getElem? (i := 361) (by decide +kernel)) rfl), (xk_in (List.mem_of_getElem? (i := 37) (by decide +kernel)) rfl), ⟨by decide, by decide⟩, by decide +kernel⟩
theorem cz_Cache_getBlock : xk_CV m_Cache_getBlock 1 2 := ⟨mo_Cache_getBlock, (xk_in (List.mem_of_getElem? (i := 359) (by decide +kernel)) rfl), (xk_in (List.mem_of_getElem? (i := 360) (by decide +kernel)) rfl), ⟨_, rfl, rfl⟩, by decide⟩
theorem mo_Cache_find : xk_mok m_Cache_find 2 := ⟨rfl, by decide, (xk_in (List.mem_of_getElem? (i := 365) (by decide +kernel)) rfl), (xk_in (List.mem_of_getElem? (i := 37) (by decide +kernel)) rfl), ⟨by decide, by decide⟩, by decide +kernel⟩
theorem cz_Cache_find : xk_CV m_Cache_find 1 2 := ⟨mo_Cache_find, (xk_in (List.mem_of_getElem? (i := 364) (by decide +kernel)) rfl), (xk_in (List.mem_of_getElem? (i := 9) (by decide +kernel)) rfl), ⟨_, rfl, rfl⟩, by decide⟩
theorem mo_Block_isOf : xk_mok m_Block_isOf 2 := ⟨rfl, by decide, (xk_in (List.mem_of_getElem? (i := 369) (by decide +kernel)) rfl), (xk_in (List.mem_of_getElem? (i := 38) (by decide +kernel)) rfl), ⟨by decide, by decide⟩, by decide +kernel⟩
theorem cz_Block_isOf : xk_CV m_Block_isOf 0 2 := ⟨mo_Block_isOf, (xk_in (List.mem_of_getElem? (i := 367) (by decide +kernel)) rfl), (xk_in (List.mem_of_getElem? (i := 368) (by decide +kernel)) rfl), ⟨_, rfl, rfl⟩, by decide⟩
theorem mo_Cache_makeRoom : xk_mok m_Cache_makeRoom 0 := ⟨rfl, by decide, (xk_in (List.mem_of_getElem? (i := 373) (by decide +kernel)) rfl), (xk_in (List.mem_of_getElem? (i := 37) (by decide +kernel)) rfl), ⟨by decide, by decide⟩, by decide +kernel⟩
theorem cz_Cache_makeRoom : xk_CV m_Cache_makeRoom 1 0 := ⟨mo_Cache_makeRoom, (xk_in (List.mem_of_getElem? (i := 372) (by decide +kernel)) rfl), (xk_in (List.mem_of_getElem? (i := 10) (by decide +kernel)) rfl), ⟨_, rfl, rfl⟩, by decide⟩
theorem mo_Cache_writeOut : xk_mok m_Cache_writeOut 1 := ⟨rfl, by decide, (xk_in (List.mem_of_getElem? (i := 377) (by decide +kernel)) rfl), (xk_in (List.mem_of_getElem? (i := 37) (by decide +kernel)) rfl), ⟨by decide, by decide⟩, by decide +kernel⟩
theorem cz_Cache_writeOut : xk_CV m_Cache_writeOut 1 1 := ⟨mo_Cache_writeOut, (xk_in (List.mem_of_getElem? (i := 376) (by decide +kernel)) rfl), (xk_in (List.mem_of_getElem? (i := 11) (by decide +kernel)) rfl), ⟨_, rfl, rfl⟩, by decide⟩
theorem mo_Host_writeBlock : xk_mok m_Host_writeBlock 4 := ⟨rfl, by decide, (xk_in (List.mem_of_getElem? (i := 381) (by decide +kernel)) rfl), (xk_in (List.mem_of_getElem? (i := 36) (by decide +kernel)) rfl), ⟨by decide, by decide⟩, by decide +kernel⟩
theorem cz_Host_writeBlock : xk_CV m_Host_writeBlock 2 4 := ⟨mo_Host_writeBlock, (xk_in (List.mem_of_getElem? (i := 379) (by decide +kernel)) rfl), (xk_in (List.mem_of_getElem? (i := 380) (by decide +kernel)) rfl), ⟨_, rfl, rfl⟩, by decide⟩
theorem mo_Cache_bringIn : xk_mok m_Cache_bringIn 2 := ⟨rfl, by decide, (xk_in (List.mem_of_getElem? (i := 391) (by decide +kernel)) rfl), (xk_in (List.mem_of_getElem? (i := 37) (by decide +kernel)) rfl), ⟨by decide, by decide⟩, by decide +kernel⟩
theorem cz_Cache_bringIn : xk_CV m_Cache_bringIn 1 2 := ⟨mo_Cache_bringIn, (xk_in (List.mem_of_getElem? (i := 390) (by decide +kernel)) rfl), (xk_in (List.mem_of_getElem? (i := 12) (by decide +kernel)) rfl), ⟨_, rfl, rfl⟩, by decide⟩
theorem mo_Host_readBlock : xk_mok m_Host_readBlock 3 := ⟨rfl, by decide, (xk_in (List.mem_of_getElem? (i := 396) (by decide +kernel)) rfl), (xk_in (List.mem_of_getElem? (i := 36) (by decide +kernel)) rfl), ⟨by decide, by decide⟩, by decide +kernel⟩
theorem cz_Host_readBlock : xk_CV m_Host_readBlock 2 3 := ⟨mo_Host_readBlock, (xk_in (List.mem_of_getElem? (i := 394) (by decide +kernel)) rfl), (xk_in (List.mem_of_getElem? (i := 395) (by decide +kernel)) rfl), ⟨_, rfl, rfl⟩, by decide⟩
theorem mo_Pipe_takeCell : xk_mok m_Pipe_takeCell 0 := ⟨rfl, by decide, (xk_in (List.mem_of_getElem? (i := 403) (by decide +kernel)) rfl), (xk_in (List.mem_of_getElem? (i := 43) (by decide +kernel)) rfl), ⟨by decide, by decide⟩, by decide +kernel⟩
theorem cz_Pipe_takeCell : xk_CV m_Pipe_takeCell 4 0 := ⟨mo_Pipe_takeCell, (xk_in (List.mem_of_getElem? (i := 401) (by decide +kernel)) rfl), (xk_in (List.mem_of_getElem? (i := 402) (by decide +kernel)) rfl), ⟨_, rfl, rfl⟩, by decide⟩
theorem mo_K_write : xk_mok m_K_write 3 := ⟨rfl, by decide, (xk_in (List.mem_of_getElem? (i := 407) (by decide +kernel)) rfl), (xk_in (List.mem_of_getElem? (i := 35) (by decide +kernel)) rfl), ⟨by decide, by decide⟩, by decide +kernel⟩
theorem cz_K_write : xk_CV m_K_write 6 3 := ⟨mo_K_write, (xk_in (List.mem_of_getElem? (i := 405) (by decide +kernel)) rfl), (xk_in (List.mem_of_getElem? (i := 406) (by decide +kernel)) rfl), ⟨_, rfl, rfl⟩, by decide⟩
theorem mo_K_writeFile : xk_mok m_K_writeFile 2 := ⟨rfl, by decide, (xk_in (List.mem_of_getElem? (i := 411) (by decide +kernel)) rfl), (xk_in (List.mem_of_getElem? (i := 35) (by decide +kernel)) rfl), ⟨by decide, by decide⟩, by decide +kernel⟩
theorem cz_K_writeFile : xk_CV m_K_writeFile 6 2 := ⟨mo_K_writeFile, (xk_in (List.mem_of_getElem? (i := 410) (by decide +kernel)) rfl), (xk_in (List.mem_of_getElem? (i := 13) (by decide +kernel)) rfl), ⟨_, rfl, rfl⟩, by decide⟩
theorem mo_Pipe_addCell : xk_mok m_Pipe_addCell 1 := ⟨rfl, by decide, (xk_in (List.mem_of_getElem? (i := 416) (by decide +kernel)) rfl), (xk_in (List.mem_of_getElem? (i := 43) (by decide +kernel)) rfl), ⟨by decide, by decide⟩, by decide +kernel⟩
theorem cz_Pipe_addCell : xk_CV m_Pipe_addCell 4 1 := ⟨mo_Pipe_addCell, (xk_in (List.mem_of_getElem? (i := 414) (by decide +kernel)) rfl), (xk_in (List.mem_of_getElem? (i := 415) (by decide +kernel)) rfl), ⟨_, rfl, rfl⟩, by decide⟩
theorem mo_K_seek : xk_mok m_K_seek 3 := ⟨rfl, by decide, (xk_in (List.mem_of_getElem? (i := 420) (by decide +kernel)) rfl), (xk_in (List.mem_of_getElem? (i := 35) (by decide +kernel)) rfl), ⟨by decide, by decide⟩, by decide +kernel⟩
theorem cz_K_seek : xk_CV m_K_seek 6 3 := ⟨mo_K_seek, (xk_in (List.mem_of_getElem? (i := 418) (by decide +kernel)) rfl), (xk_in (List.mem_of_getElem? (i := 419) (by decide +kernel)) rfl), ⟨_, rfl, rfl⟩, by decide⟩
theorem mo_K_sync : xk_mok m_K_sync 2 := ⟨rfl, by decide, (xk_in (List.mem_of_getElem? (i := 424) (by decide +kernel)) rfl), (xk_in (List.mem_of_getElem? (i := 35) (by decide +kernel)) rfl), ⟨by decide, by decide⟩, by decide +kernel⟩
theorem cz_K_sync : xk_CV m_K_sync 6 2 := ⟨mo_K_sync, (xk_in (List.mem_of_getElem? (i := 422) (by decide +kernel)) rfl), (xk_in (List.mem_of_getElem? (i := 423) (by decide +kernel)) rfl), ⟨_, rfl, rfl⟩, by decide⟩
theorem mo_Cache_writeFileOut : xk_mok m_Cache_writeFileOut 1 := ⟨rfl, by decide, (xk_in (List.mem_of_getElem? (i := 428) (by decide +kernel)) rfl), (xk_in (List.mem_of_getElem? (i := 37) (by decide +kernel)) rfl), ⟨by decide, by decide⟩, by decide +kernel⟩
theorem cz_Cache_writeFileOut : xk_CV m_Cache_writeFileOut 1 1 := ⟨mo_Cache_writeFileOut, (xk_in (List.mem_of_getElem? (i := 426) (by decide +kernel)) rfl), (xk_in (List.mem_of_getElem? (i := 427) (by decide +kernel)) rfl), ⟨_, rfl, rfl⟩, by decide⟩
theorem mo_K_dup : xk_mok m_K_dup 2 := ⟨rfl, by decide, (xk_in (List.mem_of_getElem? (i := 432) (by decide +kernel)) rfl), (xk_in (List.mem_of_getElem? (i := 35) (by decide +kernel)) rfl), ⟨by decide, by decide⟩, by decide +kernel⟩
theorem cz_K_dup : xk_CV m_K_dup 6 2 := ⟨mo_K_dup, (xk_in (List.mem_of_getElem? (i := 430) (by decide +kernel)) rfl), (xk_in (List.mem_of_getElem? (i := 431) (by decide +kernel)) rfl), ⟨_, rfl, rfl⟩, by decide⟩
theorem mo_K_close : xk_mok m_K_close 2 := ⟨rfl, by decide, (xk_in (List.mem_of_getElem? (i := 436) (by decide +kernel)) rfl), (xk_in (List.mem_of_getElem? (i := 35) (by decide +kernel)) rfl), ⟨by decide, by decide⟩, by decide +kernel⟩
theorem cz_K_close : xk_CV m_K_close 6 2 := ⟨mo_K_close, (xk_in (List.mem_of_getElem? (i := 434) (by decide +kernel)) rfl), (xk_in (List.mem_of_getElem? (i := 435) (by decide +kernel)) rfl), ⟨_, rfl, rfl⟩, by decide⟩
theorem mo_Task_letGo : xk_mok m_Task_letGo 1 := ⟨rfl, by decide, (xk_in (List.mem_of_getElem? (i := 440) (by decide +kernel)) rfl), (xk_in (List.mem_of_getElem? (i := 41) (by decide +kernel)) rfl), ⟨by decide, by decide⟩, by decide +kernel⟩
theorem cz_Task_letGo : xk_CV m_Task_letGo 5 1 := ⟨mo_Task_letGo, (xk_in (List.mem_of_getElem? (i := 438) (by decide +kernel)) rfl), (xk_in (List.mem_of_getElem? (i := 439) (by decide +kernel)) rfl), ⟨_, rfl, rfl⟩, by decide⟩
theorem mo_Opening_loseHolder : xk_mok m_Opening_loseHolder 0 := ⟨rfl, by decide, (xk_in (List.mem_of_getElem? (i := 444) (by decide +kernel)) rfl), (xk_in (List.mem_of_getElem? (i := 40) (by decide +kernel)) rfl), ⟨by decide, by decide⟩, by decide +kernel⟩
theorem cz_Opening_loseHolder : xk_CV m_Opening_loseHolder 3 0 := ⟨mo_Opening_loseHolder, (xk_in (List.mem_of_getElem? (i := 442) (by decide +kernel)) rfl), (xk_in (List.mem_of_getElem? (i := 443) (by decide +kernel)) rfl), ⟨_, rfl, rfl⟩, by decide⟩
theorem mo_Opening_leavePipe : xk_mok m_Opening_leavePipe 1 := ⟨rfl, by decide, (xk_in (List.mem_of_getElem? (i := 448) (by decide +kernel)) rfl), (xk_in (List.mem_of_getElem? (i := 40) (by decide +kernel)) rfl), ⟨by decide, by decide⟩, by decide +kernel⟩
theorem cz_Opening_leavePipe : xk_CV m_Opening_leavePipe 3 1 := ⟨mo_Opening_leavePipe, (xk_in (List.mem_of_getElem? (i := 447) (by decide +kernel)) rfl), (xk_in (List.mem_of_getElem? (i := 14) (by decide +kernel)) rfl), ⟨_, rfl, rfl⟩, by decide⟩
theorem mo_K_unlink : xk_mok m_K_unlink 2 := ⟨rfl, by decide, (xk_in (List.mem_of_getElem? (i := 453) (by decide +kernel)) rfl), (xk_in (List.mem_of_getElem? (i := 35) (by decide +kernel)) rfl), ⟨by decide, by decide⟩, by decide +kernel⟩
theorem cz_K_unlink : xk_CV m_K_unlink 6 2 := ⟨mo_K_unlink, (xk_in (List.mem_of_getElem? (i := 451) (by decide +kernel)) rfl), (xk_in (List.mem_of_getElem? (i := 452) (by decide +kernel)) rfl), ⟨_, rfl, rfl⟩, by decide⟩
theorem mo_Host_removeFile : xk_mok m_Host_removeFile 1 := ⟨rfl, by decide, (xk_in (List.mem_of_getElem? (i := 457) (by decide +kernel)) rfl), (xk_in (List.mem_of_getElem? (i := 36) (by decide +kernel)) rfl), ⟨by decide, by decide⟩, by decide +kernel⟩
theorem cz_Host_removeFile : xk_CV m_Host_removeFile 2 1 := ⟨mo_Host_removeFile, (xk_in (List.mem_of_getElem? (i := 455) (by decide +kernel)) rfl), (xk_in (List.mem_of_getElem? (i := 456) (by decide +kernel)) rfl), ⟨_, rfl, rfl⟩, by decide⟩
theorem mo_K_fork : xk_mok m_K_fork 1 := ⟨rfl, by decide, (xk_in (List.mem_of_getElem? (i := 461) (by decide +kernel)) rfl), (xk_in (List.mem_of_getElem? (i := 35) (by decide +kernel)) rfl), ⟨by decide, by decide⟩, by decide +kernel⟩
theorem cz_K_fork : xk_CV m_K_fork 6 1 := ⟨mo_K_fork, (xk_in (List.mem_of_getElem? (i := 459) (by decide +kernel)) rfl), (xk_in (List.mem_of_getElem? (i := 460) (by decide +kernel)) rfl), ⟨_, rfl, rfl⟩, by decide⟩
theorem mo_K_leastNotThere : xk_mok m_K_leastNotThere 0 := ⟨rfl, by decide, (xk_in (List.mem_of_getElem? (i := 465) (by decide +kernel)) rfl), (xk_in (List.mem_of_getElem? (i := 35) (by decide +kernel)) rfl), ⟨by decide, by decide⟩, by decide +kernel⟩
theorem cz_K_leastNotThere : xk_CV m_K_leastNotThere 6 0 := ⟨mo_K_leastNotThere, (xk_in (List.mem_of_getElem? (i := 464) (by decide +kernel)) rfl), (xk_in (List.mem_of_getElem? (i := 15) (by decide +kernel)) rfl), ⟨_, rfl, rfl⟩, by decide⟩
theorem mo_Task_shareAllOf : xk_mok m_Task_shareAllOf 1 := ⟨rfl, by decide, (xk_in (List.mem_of_getElem? (i := 469) (by decide +kernel)) rfl), (xk_in (List.mem_of_getElem? (i := 41) (by decide +kernel)) rfl), ⟨by decide, by decide⟩, by decide +kernel⟩
theorem cz_Task_shareAllOf : xk_CV m_Task_shareAllOf 5 1 := ⟨mo_Task_shareAllOf, (xk_in (List.mem_of_getElem? (i := 467) (by decide +kernel)) rfl), (xk_in (List.mem_of_getElem? (i := 468) (by decide +kernel)) rfl), ⟨_, rfl, rfl⟩, by decide⟩
theorem mo_K_exit : xk_mok m_K_exit 2 := ⟨rfl, by decide, (xk_in (List.mem_of_getElem? (i := 474) (by decide +kernel)) rfl), (xk_in (List.mem_of_getElem? (i := 35) (by decide +kernel)) rfl), ⟨by decide, by decide⟩, by decide +kernel⟩
theorem cz_K_exit : xk_CV m_K_exit 6 2 := ⟨mo_K_exit, (xk_in (List.mem_of_getElem? (i := 472) (by decide +kernel)) rfl), (xk_in (List.mem_of_getElem? (i := 473) (by decide +kernel)) rfl), ⟨_, rfl, rfl⟩, by decide⟩
theorem mo_Task_finish : xk_mok m_Task_finish 1 := ⟨rfl, by decide, (xk_in (List.mem_of_getElem? (i := 478) (by decide +kernel)) rfl), (xk_in (List.mem_of_getElem? (i := 41) (by decide +kernel)) rfl), ⟨by decide, by decide⟩, by decide +kernel⟩
theorem cz_Task_finish : xk_CV m_Task_finish 5 1 := ⟨mo_Task_finish, (xk_in (List.mem_of_getElem? (i := 476) (by decide +kernel)) rfl), (xk_in (List.mem_of_getElem? (i := 477) (by decide +kernel)) rfl), ⟨_, rfl, rfl⟩, by decide⟩
theorem mo_Task_letGoAll : xk_mok m_Task_letGoAll 0 := ⟨rfl, by decide, (xk_in (List.mem_of_getElem? (i := 482) (by decide +kernel)) rfl), (xk_in (List.mem_of_getElem? (i := 41) (by decide +kernel)) rfl), ⟨by decide, by decide⟩, by decide +kernel⟩
theorem cz_Task_letGoAll : xk_CV m_Task_letGoAll 5 0 := ⟨mo_Task_letGoAll, (xk_in (List.mem_of_getElem? (i := 481) (by decide +kernel)) rfl), (xk_in (List.mem_of_getElem? (i := 16) (by decide +kernel)) rfl), ⟨_, rfl, rfl⟩, by decide⟩
theorem mo_Task_isChildOf : xk_mok m_Task_isChildOf 1 := ⟨rfl, by decide, (xk_in (List.mem_of_getElem? (i := 487) (by decide +kernel)) rfl), (xk_in (List.mem_of_getElem? (i := 41) (by decide +kernel)) rfl), ⟨by decide, by decide⟩, by decide +kernel⟩
theorem cz_Task_isChildOf : xk_CV m_Task_isChildOf 5 1 := ⟨mo_Task_isChildOf, (xk_in (List.mem_of_getElem? (i := 485) (by decide +kernel)) rfl), (xk_in (List.mem_of_getElem? (i := 486) (by decide +kernel)) rfl), ⟨_, rfl, rfl⟩, by decide⟩
theorem mo_K_wait : xk_mok m_K_wait 1 := ⟨rfl, by decide, (xk_in (List.mem_of_getElem? (i := 491) (by decide +kernel)) rfl), (xk_in (List.mem_of_getElem? (i := 35) (by decide +kernel)) rfl), ⟨by decide, by decide⟩, by decide +kernel⟩
theorem cz_K_wait : xk_CV m_K_wait 6 1 := ⟨mo_K_wait, (xk_in (List.mem_of_getElem? (i := 489) (by decide +kernel)) rfl), (xk_in (List.mem_of_getElem? (i := 490) (by decide +kernel)) rfl), ⟨_, rfl, rfl⟩, by decide⟩
theorem mo_Task_vanish : xk_mok m_Task_vanish 0 := ⟨rfl, by decide, (xk_in (List.mem_of_getElem? (i := 495) (by decide +kernel)) rfl), (xk_in (List.mem_of_getElem? (i := 41) (by decide +kernel)) rfl), ⟨by decide, by decide⟩, by decide +kernel⟩
theorem cz_Task_vanish : xk_CV m_Task_vanish 5 0 := ⟨mo_Task_vanish, (xk_in (List.mem_of_getElem? (i := 493) (by decide +kernel)) rfl), (xk_in (List.mem_of_getElem? (i := 494) (by decide +kernel)) rfl), ⟨_, rfl, rfl⟩, by decide⟩
theorem mo_K_crash : xk_mok m_K_crash 0 := ⟨rfl, by decide, (xk_in (List.mem_of_getElem? (i := 499) (by decide +kernel)) rfl), (xk_in (List.mem_of_getElem? (i := 35) (by decide +kernel)) rfl), ⟨by decide, by decide⟩, by decide +kernel⟩
theorem cz_K_crash : xk_CV m_K_crash 6 0 := ⟨mo_K_crash, (xk_in (List.mem_of_getElem? (i := 497) (by decide +kernel)) rfl), (xk_in (List.mem_of_getElem? (i := 498) (by decide +kernel)) rfl), ⟨_, rfl, rfl⟩, by decide⟩
theorem mo_Cache_startAnew : xk_mok m_Cache_startAnew 0 := ⟨rfl, by decide, (xk_in (List.mem_of_getElem? (i := 503) (by decide +kernel)) rfl), (xk_in (List.mem_of_getElem? (i := 37) (by decide +kernel)) rfl), ⟨by decide, by decide⟩, by decide +kernel⟩
theorem cz_Cache_startAnew : xk_CV m_Cache_startAnew 1 0 := ⟨mo_Cache_startAnew, (xk_in (List.mem_of_getElem? (i := 501) (by decide +kernel)) rfl), (xk_in (List.mem_of_getElem? (i := 502) (by decide +kernel)) rfl), ⟨_, rfl, rfl⟩, by decide⟩
theorem mo_Host_lengthOf : xk_mok m_Host_lengthOf 1 := ⟨rfl, by decide, (xk_in (List.mem_of_getElem? (i := 507) (by decide +kernel)) rfl), (xk_in (List.mem_of_getElem? (i := 36) (by decide +kernel)) rfl), ⟨by decide, by decide⟩, by decide +kernel⟩
theorem cz_Host_lengthOf : xk_CV m_Host_lengthOf 2 1 := ⟨mo_Host_lengthOf, (xk_in (List.mem_of_getElem? (i := 505) (by decide +kernel)) rfl), (xk_in (List.mem_of_getElem? (i := 506) (by decide +kernel)) rfl), ⟨_, rfl, rfl⟩, by decide⟩
theorem mo_K_host : xk_mok m_K_host 2 := ⟨rfl, by decide, (xk_in (List.mem_of_getElem? (i := 511) (by decide +kernel)) rfl), (xk_in (List.mem_of_getElem? (i := 35) (by decide +kernel)) rfl), ⟨by decide, by decide⟩, by decide +kernel⟩
theorem cz_K_host : xk_CV m_K_host 6 2 := ⟨mo_K_host, (xk_in (List.mem_of_getElem? (i := 509) (by decide +kernel)) rfl), (xk_in (List.mem_of_getElem? (i := 510) (by decide +kernel)) rfl), ⟨_, rfl, rfl⟩, by decide⟩
theorem mo_Host_cellAt : xk_mok m_Host_cellAt 2 := ⟨rfl, by decide, (xk_in (List.mem_of_getElem? (i := 516) (by decide +kernel)) rfl), (xk_in (List.mem_of_getElem? (i := 36) (by decide +kernel)) rfl), ⟨by decide, by decide⟩, by decide +kernel⟩
theorem cz_Host_cellAt : xk_CV m_Host_cellAt 2 2 := ⟨mo_Host_cellAt, (xk_in (List.mem_of_getElem? (i := 514) (by decide +kernel)) rfl), (xk_in (List.mem_of_getElem? (i := 515) (by decide +kernel)) rfl), ⟨_, rfl, rfl⟩, by decide⟩
theorem mo_K_log : xk_mok m_K_log 1 := ⟨rfl, by decide, (xk_in (List.mem_of_getElem? (i := 520) (by decide +kernel)) rfl), (xk_in (List.mem_of_getElem? (i := 35) (by decide +kernel)) rfl), ⟨by decide, by decide⟩, by decide +kernel⟩
theorem cz_K_log : xk_CV m_K_log 6 1 := ⟨mo_K_log, (xk_in (List.mem_of_getElem? (i := 518) (by decide +kernel)) rfl), (xk_in (List.mem_of_getElem? (i := 519) (by decide +kernel)) rfl), ⟨_, rfl, rfl⟩, by decide⟩
theorem mo_Host_operations : xk_mok m_Host_operations 0 := ⟨rfl, by decide, (xk_in (List.mem_of_getElem? (i := 524) (by decide +kernel)) rfl), (xk_in (List.mem_of_getElem? (i := 36) (by decide +kernel)) rfl), ⟨by decide, by decide⟩, by decide +kernel⟩
theorem cz_Host_operations : xk_CV m_Host_operations 2 0 := ⟨mo_Host_operations, (xk_in (List.mem_of_getElem? (i := 522) (by decide +kernel)) rfl), (xk_in (List.mem_of_getElem? (i := 523) (by decide +kernel)) rfl), ⟨_, rfl, rfl⟩, by decide⟩
theorem mo_Host_entryAt : xk_mok m_Host_entryAt 1 := ⟨rfl, by decide, (xk_in (List.mem_of_getElem? (i := 529) (by decide +kernel)) rfl), (xk_in (List.mem_of_getElem? (i := 36) (by decide +kernel)) rfl), ⟨by decide, by decide⟩, by decide +kernel⟩
theorem cz_Host_entryAt : xk_CV m_Host_entryAt 2 1 := ⟨mo_Host_entryAt, (xk_in (List.mem_of_getElem? (i := 527) (by decide +kernel)) rfl), (xk_in (List.mem_of_getElem? (i := 528) (by decide +kernel)) rfl), ⟨_, rfl, rfl⟩, by decide⟩
theorem mo_K_cached : xk_mok m_K_cached 1 := ⟨rfl, by decide, (xk_in (List.mem_of_getElem? (i := 533) (by decide +kernel)) rfl), (xk_in (List.mem_of_getElem? (i := 35) (by decide +kernel)) rfl), ⟨by decide, by decide⟩, by decide +kernel⟩
theorem cz_K_cached : xk_CV m_K_cached 6 1 := ⟨mo_K_cached, (xk_in (List.mem_of_getElem? (i := 531) (by decide +kernel)) rfl), (xk_in (List.mem_of_getElem? (i := 532) (by decide +kernel)) rfl), ⟨_, rfl, rfl⟩, by decide⟩
theorem mo_Cache_size : xk_mok m_Cache_size 0 := ⟨rfl, by decide, (xk_in (List.mem_of_getElem? (i := 537) (by decide +kernel)) rfl), (xk_in (List.mem_of_getElem? (i := 37) (by decide +kernel)) rfl), ⟨by decide, by decide⟩, by decide +kernel⟩
theorem cz_Cache_size : xk_CV m_Cache_size 1 0 := ⟨mo_Cache_size, (xk_in (List.mem_of_getElem? (i := 535) (by decide +kernel)) rfl), (xk_in (List.mem_of_getElem? (i := 536) (by decide +kernel)) rfl), ⟨_, rfl, rfl⟩, by decide⟩
theorem mo_Cache_blockAt : xk_mok m_Cache_blockAt 1 := ⟨rfl, by decide, (xk_in (List.mem_of_getElem? (i := 541) (by decide +kernel)) rfl), (xk_in (List.mem_of_getElem? (i := 37) (by decide +kernel)) rfl), ⟨by decide, by decide⟩, by decide +kernel⟩
theorem cz_Cache_blockAt : xk_CV m_Cache_blockAt 1 1 := ⟨mo_Cache_blockAt, (xk_in (List.mem_of_getElem? (i := 539) (by decide +kernel)) rfl), (xk_in (List.mem_of_getElem? (i := 540) (by decide +kernel)) rfl), ⟨_, rfl, rfl⟩, by decide⟩
theorem mo_Block_describe : xk_mok m_Block_describe 0 := ⟨rfl, by decide, (xk_in (List.mem_of_getElem? (i := 545) (by decide +kernel)) rfl), (xk_in (List.mem_of_getElem? (i := 38) (by decide +kernel)) rfl), ⟨by decide, by decide⟩, by decide +kernel⟩
theorem cz_Block_describe : xk_CV m_Block_describe 0 0 := ⟨mo_Block_describe, (xk_in (List.mem_of_getElem? (i := 543) (by decide +kernel)) rfl), (xk_in (List.mem_of_getElem? (i := 544) (by decide +kernel)) rfl), ⟨_, rfl, rfl⟩, by decide⟩
theorem mo_K_count : xk_mok m_K_count 1 := ⟨rfl, by decide, (xk_in (List.mem_of_getElem? (i := 549) (by decide +kernel)) rfl), (xk_in (List.mem_of_getElem? (i := 35) (by decide +kernel)) rfl), ⟨by decide, by decide⟩, by decide +kernel⟩
theorem cz_K_count : xk_CV m_K_count 6 1 := ⟨mo_K_count, (xk_in (List.mem_of_getElem? (i := 547) (by decide +kernel)) rfl), (xk_in (List.mem_of_getElem? (i := 548) (by decide +kernel)) rfl), ⟨_, rfl, rfl⟩, by decide⟩
theorem mo_K_openingsThere : xk_mok m_K_openingsThere 0 := ⟨rfl, by decide, (xk_in (List.mem_of_getElem? (i := 553) (by decide +kernel)) rfl), (xk_in (List.mem_of_getElem? (i := 35) (by decide +kernel)) rfl), ⟨by decide, by decide⟩, by decide +kernel⟩
theorem cz_K_openingsThere : xk_CV m_K_openingsThere 6 0 := ⟨mo_K_openingsThere, (xk_in (List.mem_of_getElem? (i := 552) (by decide +kernel)) rfl), (xk_in (List.mem_of_getElem? (i := 17) (by decide +kernel)) rfl), ⟨_, rfl, rfl⟩, by decide⟩
theorem mo_K_tasksThere : xk_mok m_K_tasksThere 0 := ⟨rfl, by decide, (xk_in (List.mem_of_getElem? (i := 557) (by decide +kernel)) rfl), (xk_in (List.mem_of_getElem? (i := 35) (by decide +kernel)) rfl), ⟨by decide, by decide⟩, by decide +kernel⟩
theorem cz_K_tasksThere : xk_CV m_K_tasksThere 6 0 := ⟨mo_K_tasksThere, (xk_in (List.mem_of_getElem? (i := 556) (by decide +kernel)) rfl), (xk_in (List.mem_of_getElem? (i := 18) (by decide +kernel)) rfl), ⟨_, rfl, rfl⟩, by decide⟩
theorem mo_Cache_dirtyBlocks : xk_mok m_Cache_dirtyBlocks 0 := ⟨rfl, by decide, (xk_in (List.mem_of_getElem? (i := 561) (by decide +kernel)) rfl), (xk_in (List.mem_of_getElem? (i := 37) (by decide +kernel)) rfl), ⟨by decide, by decide⟩, by decide +kernel⟩
theorem cz_Cache_dirtyBlocks : xk_CV m_Cache_dirtyBlocks 1 0 := ⟨mo_Cache_dirtyBlocks, (xk_in (List.mem_of_getElem? (i := 559) (by decide +kernel)) rfl), (xk_in (List.mem_of_getElem? (i := 560) (by decide +kernel)) rfl), ⟨_, rfl, rfl⟩, by decide⟩
theorem mo_Host_leftToFail : xk_mok m_Host_leftToFail 0 := ⟨rfl, by decide, (xk_in (List.mem_of_getElem? (i := 565) (by decide +kernel)) rfl), (xk_in (List.mem_of_getElem? (i := 36) (by decide +kernel)) rfl), ⟨by decide, by decide⟩, by decide +kernel⟩
theorem cz_Host_leftToFail : xk_CV m_Host_leftToFail 2 0 := ⟨mo_Host_leftToFail, (xk_in (List.mem_of_getElem? (i := 563) (by decide +kernel)) rfl), (xk_in (List.mem_of_getElem? (i := 564) (by decide +kernel)) rfl), ⟨_, rfl, rfl⟩, by decide⟩
theorem mo_M_init : xk_mok m_M_init 0 := ⟨rfl, by decide, (xk_in (List.mem_of_getElem? (i := 570) (by decide +kernel)) rfl), (xk_in (List.mem_of_getElem? (i := 42) (by decide +kernel)) rfl), ⟨by decide, by decide⟩, by decide +kernel⟩
theorem cz_M_init : xk_CI m_M_init 0 := ⟨mo_M_init, rfl, rfl, (xk_in (List.mem_of_getElem? (i := 569) (by decide +kernel)) rfl), by decide⟩
theorem mo_M_reborn : xk_mok m_M_reborn 0 := ⟨rfl, by decide, (xk_in (List.mem_of_getElem? (i := 575) (by decide +kernel)) rfl), (xk_in (List.mem_of_getElem? (i := 42) (by decide +kernel)) rfl), ⟨by decide, by decide⟩, by decide +kernel⟩
theorem cz_M_reborn : xk_CV m_M_reborn 7 0 := ⟨mo_M_reborn, (xk_in (List.mem_of_getElem? (i := 574) (by decide +kernel)) rfl), (xk_in (List.mem_of_getElem? (i := 19) (by decide +kernel)) rfl), ⟨_, rfl, rfl⟩, by decide⟩
theorem mo_M_put : xk_mok m_M_put 3 := ⟨rfl, by decide, (xk_in (List.mem_of_getElem? (i := 649) (by decide +kernel)) rfl), (xk_in (List.mem_of_getElem? (i := 42) (by decide +kernel)) rfl), ⟨by decide, by decide⟩, by decide +kernel⟩
theorem cz_M_put : xk_CV m_M_put 7 3 := ⟨mo_M_put, (xk_in (List.mem_of_getElem? (i := 647) (by decide +kernel)) rfl), (xk_in (List.mem_of_getElem? (i := 648) (by decide +kernel)) rfl), ⟨_, rfl, rfl⟩, by decide⟩
theorem mo_M_in : xk_mok m_M_in 3 := ⟨rfl, by decide, (xk_in (List.mem_of_getElem? (i := 652) (by decide +kernel)) rfl), (xk_in (List.mem_of_getElem? (i := 42) (by decide +kernel)) rfl), ⟨by decide, by decide⟩, by decide +kernel⟩
theorem cz_M_in : xk_CS m_M_in 3 := ⟨mo_M_in, (xk_in (List.mem_of_getElem? (i := 651) (by decide +kernel)) rfl), by decide⟩
theorem mo_M_openFile : xk_mok m_M_openFile 1 := ⟨rfl, by decide, (xk_in (List.mem_of_getElem? (i := 656) (by decide +kernel)) rfl), (xk_in (List.mem_of_getElem? (i := 42) (by decide +kernel)) rfl), ⟨by decide, by decide⟩, by decide +kernel⟩
theorem cz_M_openFile : xk_CV m_M_openFile 7 1 := ⟨mo_M_openFile, (xk_in (List.mem_of_getElem? (i := 655) (by decide +kernel)) rfl), (xk_in (List.mem_of_getElem? (i := 20) (by decide +kernel)) rfl), ⟨_, rfl, rfl⟩, by decide⟩
theorem mo_M_used : xk_mok m_M_used 1 := ⟨rfl, by decide, (xk_in (List.mem_of_getElem? (i := 660) (by decide +kernel)) rfl), (xk_in (List.mem_of_getElem? (i := 42) (by decide +kernel)) rfl), ⟨by decide, by decide⟩, by decide +kernel⟩
theorem cz_M_used : xk_CV m_M_used 7 1 := ⟨mo_M_used, (xk_in (List.mem_of_getElem? (i := 659) (by decide +kernel)) rfl), (xk_in (List.mem_of_getElem? (i := 21) (by decide +kernel)) rfl), ⟨_, rfl, rfl⟩, by decide⟩
theorem mo_M_wipeHost : xk_mok m_M_wipeHost 1 := ⟨rfl, by decide, (xk_in (List.mem_of_getElem? (i := 664) (by decide +kernel)) rfl), (xk_in (List.mem_of_getElem? (i := 42) (by decide +kernel)) rfl), ⟨by decide, by decide⟩, by decide +kernel⟩
theorem cz_M_wipeHost : xk_CV m_M_wipeHost 7 1 := ⟨mo_M_wipeHost, (xk_in (List.mem_of_getElem? (i := 663) (by decide +kernel)) rfl), (xk_in (List.mem_of_getElem? (i := 22) (by decide +kernel)) rfl), ⟨_, rfl, rfl⟩, by decide⟩
theorem mo_M_policy : xk_mok m_M_policy 2 := ⟨rfl, by decide, (xk_in (List.mem_of_getElem? (i := 668) (by decide +kernel)) rfl), (xk_in (List.mem_of_getElem? (i := 42) (by decide +kernel)) rfl), ⟨by decide, by decide⟩, by decide +kernel⟩
theorem cz_M_policy : xk_CV m_M_policy 7 2 := ⟨mo_M_policy, (xk_in (List.mem_of_getElem? (i := 666) (by decide +kernel)) rfl), (xk_in (List.mem_of_getElem? (i := 667) (by decide +kernel)) rfl), ⟨_, rfl, rfl⟩, by decide⟩
theorem mo_M_failing : xk_mok m_M_failing 1 := ⟨rfl, by decide, (xk_in (List.mem_of_getElem? (i := 672) (by decide +kernel)) rfl), (xk_in (List.mem_of_getElem? (i := 42) (by decide +kernel)) rfl), ⟨by decide, by decide⟩, by decide +kernel⟩
theorem cz_M_failing : xk_CV m_M_failing 7 1 := ⟨mo_M_failing, (xk_in (List.mem_of_getElem? (i := 670) (by decide +kernel)) rfl), (xk_in (List.mem_of_getElem? (i := 671) (by decide +kernel)) rfl), ⟨_, rfl, rfl⟩, by decide⟩
theorem mo_M_open : xk_mok m_M_open 3 := ⟨rfl, by decide, (xk_in (List.mem_of_getElem? (i := 676) (by decide +kernel)) rfl), (xk_in (List.mem_of_getElem? (i := 42) (by decide +kernel)) rfl), ⟨by decide, by decide⟩, by decide +kernel⟩
theorem cz_M_open : xk_CV m_M_open 7 3 := ⟨mo_M_open, (xk_in (List.mem_of_getElem? (i := 674) (by decide +kernel)) rfl), (xk_in (List.mem_of_getElem? (i := 675) (by decide +kernel)) rfl), ⟨_, rfl, rfl⟩, by decide⟩
theorem mo_M_alive : xk_mok m_M_alive 1 := ⟨rfl, by decide, (xk_in (List.mem_of_getElem? (i := 680) (by decide +kernel)) rfl), (xk_in (List.mem_of_getElem? (i := 42) (by decide +kernel)) rfl), ⟨by decide, by decide⟩, by decide +kernel⟩
theorem cz_M_alive : xk_CV m_M_alive 7 1 := ⟨mo_M_alive, (xk_in (List.mem_of_getElem? (i := 679) (by decide +kernel)) rfl), (xk_in (List.mem_of_getElem? (i := 23) (by decide +kernel)) rfl), ⟨_, rfl, rfl⟩, by decide⟩
theorem mo_M_free : xk_mok m_M_free 2 := ⟨rfl, by decide, (xk_in (List.mem_of_getElem? (i := 684) (by decide +kernel)) rfl), (xk_in (List.mem_of_getElem? (i := 42) (by decide +kernel)) rfl), ⟨by decide, by decide⟩, by decide +kernel⟩
theorem cz_M_free : xk_CV m_M_free 7 2 := ⟨mo_M_free, (xk_in (List.mem_of_getElem? (i := 683) (by decide +kernel)) rfl), (xk_in (List.mem_of_getElem? (i := 24) (by decide +kernel)) rfl), ⟨_, rfl, rfl⟩, by decide⟩
theorem mo_M_openings : xk_mok m_M_openings 0 := ⟨rfl, by decide, (xk_in (List.mem_of_getElem? (i := 688) (by decide +kernel)) rfl), (xk_in (List.mem_of_getElem? (i := 42) (by decide +kernel)) rfl), ⟨by decide, by decide⟩, by decide +kernel⟩
theorem cz_M_openings : xk_CV m_M_openings 7 0 := ⟨mo_M_openings, (xk_in (List.mem_of_getElem? (i := 687) (by decide +kernel)) rfl), (xk_in (List.mem_of_getElem? (i := 25) (by decide +kernel)) rfl), ⟨_, rfl, rfl⟩, by decide⟩
theorem mo_M_operate : xk_mok m_M_operate 3 := ⟨rfl, by decide, (xk_in (List.mem_of_getElem? (i := 692) (by decide +kernel)) rfl), (xk_in (List.mem_of_getElem? (i := 42) (by decide +kernel)) rfl), ⟨by decide, by decide⟩, by decide +kernel⟩
theorem cz_M_operate : xk_CV m_M_operate 7 3 := ⟨mo_M_operate, (xk_in (List.mem_of_getElem? (i := 691) (by decide +kernel)) rfl), (xk_in (List.mem_of_getElem? (i := 26) (by decide +kernel)) rfl), ⟨_, rfl, rfl⟩, by decide⟩
theorem mo_M_forget : xk_mok m_M_forget 1 := ⟨rfl, by decide, (xk_in (List.mem_of_getElem? (i := 696) (by decide +kernel)) rfl), (xk_in (List.mem_of_getElem? (i := 42) (by decide +kernel)) rfl), ⟨by decide, by decide⟩, by decide +kernel⟩
theorem cz_M_forget : xk_CV m_M_forget 7 1 := ⟨mo_M_forget, (xk_in (List.mem_of_getElem? (i := 695) (by decide +kernel)) rfl), (xk_in (List.mem_of_getElem? (i := 27) (by decide +kernel)) rfl), ⟨_, rfl, rfl⟩, by decide⟩
theorem mo_M_newOpening : xk_mok m_M_newOpening 3 := ⟨rfl, by decide, (xk_in (List.mem_of_getElem? (i := 700) (by decide +kernel)) rfl), (xk_in (List.mem_of_getElem? (i := 42) (by decide +kernel)) rfl), ⟨by decide, by decide⟩, by decide +kernel⟩
theorem cz_M_newOpening : xk_CV m_M_newOpening 7 3 := ⟨mo_M_newOpening, (xk_in (List.mem_of_getElem? (i := 699) (by decide +kernel)) rfl), (xk_in (List.mem_of_getElem? (i := 28) (by decide +kernel)) rfl), ⟨_, rfl, rfl⟩, by decide⟩
theorem mo_M_pipe : xk_mok m_M_pipe 1 := ⟨rfl, by decide, (xk_in (List.mem_of_getElem? (i := 704) (by decide +kernel)) rfl), (xk_in (List.mem_of_getElem? (i := 42) (by decide +kernel)) rfl), ⟨by decide, by decide⟩, by decide +kernel⟩
theorem cz_M_pipe : xk_CV m_M_pipe 7 1 := ⟨mo_M_pipe, (xk_in (List.mem_of_getElem? (i := 702) (by decide +kernel)) rfl), (xk_in (List.mem_of_getElem? (i := 703) (by decide +kernel)) rfl), ⟨_, rfl, rfl⟩, by decide⟩
theorem mo_M_hasEnd : xk_mok m_M_hasEnd 2 := ⟨rfl, by decide, (xk_in (List.mem_of_getElem? (i := 708) (by decide +kernel)) rfl), (xk_in (List.mem_of_getElem? (i := 42) (by decide +kernel)) rfl), ⟨by decide, by decide⟩, by decide +kernel⟩
theorem cz_M_hasEnd : xk_CV m_M_hasEnd 7 2 := ⟨mo_M_hasEnd, (xk_in (List.mem_of_getElem? (i := 707) (by decide +kernel)) rfl), (xk_in (List.mem_of_getElem? (i := 29) (by decide +kernel)) rfl), ⟨_, rfl, rfl⟩, by decide⟩
theorem mo_M_read : xk_mok m_M_read 2 := ⟨rfl, by decide, (xk_in (List.mem_of_getElem? (i := 712) (by decide +kernel)) rfl), (xk_in (List.mem_of_getElem? (i := 42) (by decide +kernel)) rfl), ⟨by decide, by decide⟩, by decide +kernel⟩
theorem cz_M_read : xk_CV m_M_read 7 2 := ⟨mo_M_read, (xk_in (List.mem_of_getElem? (i := 710) (by decide +kernel)) rfl), (xk_in (List.mem_of_getElem? (i := 711) (by decide +kernel)) rfl), ⟨_, rfl, rfl⟩, by decide⟩
theorem mo_M_opening : xk_mok m_M_opening 2 := ⟨rfl, by decide, (xk_in (List.mem_of_getElem? (i := 716) (by decide +kernel)) rfl), (xk_in (List.mem_of_getElem? (i := 42) (by decide +kernel)) rfl), ⟨by decide, by decide⟩, by decide +kernel⟩
theorem cz_M_opening : xk_CV m_M_opening 7 2 := ⟨mo_M_opening, (xk_in (List.mem_of_getElem? (i := 715) (by decide +kernel)) rfl), (xk_in (List.mem_of_getElem? (i := 30) (by decide +kernel)) rfl), ⟨_, rfl, rfl⟩, by decide⟩
theorem mo_M_get : xk_mok m_M_get 2 := ⟨rfl, by decide, (xk_in (List.mem_of_getElem? (i := 720) (by decide +kernel)) rfl), (xk_in (List.mem_of_getElem? (i := 42) (by decide +kernel)) rfl), ⟨by decide, by decide⟩, by decide +kernel⟩
theorem cz_M_get : xk_CV m_M_get 7 2 := ⟨mo_M_get, (xk_in (List.mem_of_getElem? (i := 719) (by decide +kernel)) rfl), (xk_in (List.mem_of_getElem? (i := 31) (by decide +kernel)) rfl), ⟨_, rfl, rfl⟩, by decide⟩
theorem mo_M_toFront : xk_mok m_M_toFront 1 := ⟨rfl, by decide, (xk_in (List.mem_of_getElem? (i := 724) (by decide +kernel)) rfl), (xk_in (List.mem_of_getElem? (i := 42) (by decide +kernel)) rfl), ⟨by decide, by decide⟩, by decide +kernel⟩
theorem cz_M_toFront : xk_CV m_M_toFront 7 1 := ⟨mo_M_toFront, (xk_in (List.mem_of_getElem? (i := 723) (by decide +kernel)) rfl), (xk_in (List.mem_of_getElem? (i := 32) (by decide +kernel)) rfl), ⟨_, rfl, rfl⟩, by decide⟩
theorem mo_M_writeBack : xk_mok m_M_writeBack 1 := ⟨rfl, by decide, (xk_in (List.mem_of_getElem? (i := 728) (by decide +kernel)) rfl), (xk_in (List.mem_of_getElem? (i := 42) (by decide +kernel)) rfl), ⟨by decide, by decide⟩, by decide +kernel⟩
theorem cz_M_writeBack : xk_CV m_M_writeBack 7 1 := ⟨mo_M_writeBack, (xk_in (List.mem_of_getElem? (i := 727) (by decide +kernel)) rfl), (xk_in (List.mem_of_getElem? (i := 33) (by decide +kernel)) rfl), ⟨_, rfl, rfl⟩, by decide⟩
theorem mo_M_write : xk_mok m_M_write 3 := ⟨rfl, by decide, (xk_in (List.mem_of_getElem? (i := 732) (by decide +kernel)) rfl), (xk_in (List.mem_of_getElem? (i := 42) (by decide +kernel)) rfl), ⟨by decide, by decide⟩, by decide +kernel⟩
theorem cz_M_write : xk_CV m_M_write 7 3 := ⟨mo_M_write, (xk_in (List.mem_of_getElem? (i := 730) (by decide +kernel)) rfl), (xk_in (List.mem_of_getElem? (i := 731) (by decide +kernel)) rfl), ⟨_, rfl, rfl⟩, by decide⟩
theorem mo_M_seek : xk_mok m_M_seek 3 := ⟨rfl, by decide, (xk_in (List.mem_of_getElem? (i := 736) (by decide +kernel)) rfl), (xk_in (List.mem_of_getElem? (i := 42) (by decide +kernel)) rfl), ⟨by decide, by decide⟩, by decide +kernel⟩
theorem cz_M_seek : xk_CV m_M_seek 7 3 := ⟨mo_M_seek, (xk_in (List.mem_of_getElem? (i := 734) (by decide +kernel)) rfl), (xk_in (List.mem_of_getElem? (i := 735) (by decide +kernel)) rfl), ⟨_, rfl, rfl⟩, by decide⟩
theorem mo_M_sync : xk_mok m_M_sync 2 := ⟨rfl, by decide, (xk_in (List.mem_of_getElem? (i := 740) (by decide +kernel)) rfl), (xk_in (List.mem_of_getElem? (i := 42) (by decide +kernel)) rfl), ⟨by decide, by decide⟩, by decide +kernel⟩
theorem cz_M_sync : xk_CV m_M_sync 7 2 := ⟨mo_M_sync, (xk_in (List.mem_of_getElem? (i := 738) (by decide +kernel)) rfl), (xk_in (List.mem_of_getElem? (i := 739) (by decide +kernel)) rfl), ⟨_, rfl, rfl⟩, by decide⟩
theorem mo_M_dup : xk_mok m_M_dup 2 := ⟨rfl, by decide, (xk_in (List.mem_of_getElem? (i := 744) (by decide +kernel)) rfl), (xk_in (List.mem_of_getElem? (i := 42) (by decide +kernel)) rfl), ⟨by decide, by decide⟩, by decide +kernel⟩
theorem cz_M_dup : xk_CV m_M_dup 7 2 := ⟨mo_M_dup, (xk_in (List.mem_of_getElem? (i := 742) (by decide +kernel)) rfl), (xk_in (List.mem_of_getElem? (i := 743) (by decide +kernel)) rfl), ⟨_, rfl, rfl⟩, by decide⟩
theorem mo_M_close : xk_mok m_M_close 2 := ⟨rfl, by decide, (xk_in (List.mem_of_getElem? (i := 748) (by decide +kernel)) rfl), (xk_in (List.mem_of_getElem? (i := 42) (by decide +kernel)) rfl), ⟨by decide, by decide⟩, by decide +kernel⟩
theorem cz_M_close : xk_CV m_M_close 7 2 := ⟨mo_M_close, (xk_in (List.mem_of_getElem? (i := 746) (by decide +kernel)) rfl), (xk_in (List.mem_of_getElem? (i := 747) (by decide +kernel)) rfl), ⟨_, rfl, rfl⟩, by decide⟩
theorem mo_M_unlink : xk_mok m_M_unlink 2 := ⟨rfl, by decide, (xk_in (List.mem_of_getElem? (i := 752) (by decide +kernel)) rfl), (xk_in (List.mem_of_getElem? (i := 42) (by decide +kernel)) rfl), ⟨by decide, by decide⟩, by decide +kernel⟩
theorem cz_M_unlink : xk_CV m_M_unlink 7 2 := ⟨mo_M_unlink, (xk_in (List.mem_of_getElem? (i := 750) (by decide +kernel)) rfl), (xk_in (List.mem_of_getElem? (i := 751) (by decide +kernel)) rfl), ⟨_, rfl, rfl⟩, by decide⟩
theorem mo_M_fork : xk_mok m_M_fork 1 := ⟨rfl, by decide, (xk_in (List.mem_of_getElem? (i := 756) (by decide +kernel)) rfl), (xk_in (List.mem_of_getElem? (i := 42) (by decide +kernel)) rfl), ⟨by decide, by decide⟩, by decide +kernel⟩
theorem cz_M_fork : xk_CV m_M_fork 7 1 := ⟨mo_M_fork, (xk_in (List.mem_of_getElem? (i := 754) (by decide +kernel)) rfl), (xk_in (List.mem_of_getElem? (i := 755) (by decide +kernel)) rfl), ⟨_, rfl, rfl⟩, by decide⟩
theorem mo_M_exit : xk_mok m_M_exit 2 := ⟨rfl, by decide, (xk_in (List.mem_of_getElem? (i := 760) (by decide +kernel)) rfl), (xk_in (List.mem_of_getElem? (i := 42) (by decide +kernel)) rfl), ⟨by decide, by decide⟩, by decide +kernel⟩
theorem cz_M_exit : xk_CV m_M_exit 7 2 := ⟨mo_M_exit, (xk_in (List.mem_of_getElem? (i := 758) (by decide +kernel)) rfl), (xk_in (List.mem_of_getElem? (i := 759) (by decide +kernel)) rfl), ⟨_, rfl, rfl⟩, by decide⟩
theorem mo_M_wait : xk_mok m_M_wait 1 := ⟨rfl, by decide, (xk_in (List.mem_of_getElem? (i := 764) (by decide +kernel)) rfl), (xk_in (List.mem_of_getElem? (i := 42) (by decide +kernel)) rfl), ⟨by decide, by decide⟩, by decide +kernel⟩
theorem cz_M_wait : xk_CV m_M_wait 7 1 := ⟨mo_M_wait, (xk_in (List.mem_of_getElem? (i := 762) (by decide +kernel)) rfl), (xk_in (List.mem_of_getElem? (i := 763) (by decide +kernel)) rfl), ⟨_, rfl, rfl⟩, by decide⟩
theorem mo_M_crash : xk_mok m_M_crash 0 := ⟨rfl, by decide, (xk_in (List.mem_of_getElem? (i := 768) (by decide +kernel)) rfl), (xk_in (List.mem_of_getElem? (i := 42) (by decide +kernel)) rfl), ⟨by decide, by decide⟩, by decide +kernel⟩
theorem cz_M_crash : xk_CV m_M_crash 7 0 := ⟨mo_M_crash, (xk_in (List.mem_of_getElem? (i := 766) (by decide +kernel)) rfl), (xk_in (List.mem_of_getElem? (i := 767) (by decide +kernel)) rfl), ⟨_, rfl, rfl⟩, by decide⟩
theorem mo_M_host : xk_mok m_M_host 2 := ⟨rfl, by decide, (xk_in (List.mem_of_getElem? (i := 772) (by decide +kernel)) rfl), (xk_in (List.mem_of_getElem? (i := 42) (by decide +kernel)) rfl), ⟨by decide, by decide⟩, by decide +kernel⟩
theorem cz_M_host : xk_CV m_M_host 7 2 := ⟨mo_M_host, (xk_in (List.mem_of_getElem? (i := 770) (by decide +kernel)) rfl), (xk_in (List.mem_of_getElem? (i := 771) (by decide +kernel)) rfl), ⟨_, rfl, rfl⟩, by decide⟩
theorem mo_M_log : xk_mok m_M_log 1 := ⟨rfl, by decide, (xk_in (List.mem_of_getElem? (i := 776) (by decide +kernel)) rfl), (xk_in (List.mem_of_getElem? (i := 42) (by decide +kernel)) rfl), ⟨by decide, by decide⟩, by decide +kernel⟩
theorem cz_M_log : xk_CV m_M_log 7 1 := ⟨mo_M_log, (xk_in (List.mem_of_getElem? (i := 774) (by decide +kernel)) rfl), (xk_in (List.mem_of_getElem? (i := 775) (by decide +kernel)) rfl), ⟨_, rfl, rfl⟩, by decide⟩
theorem mo_M_cached : xk_mok m_M_cached 1 := ⟨rfl, by decide, (xk_in (List.mem_of_getElem? (i := 780) (by decide +kernel)) rfl), (xk_in (List.mem_of_getElem? (i := 42) (by decide +kernel)) rfl), ⟨by decide, by decide⟩, by decide +kernel⟩
theorem cz_M_cached : xk_CV m_M_cached 7 1 := ⟨mo_M_cached, (xk_in (List.mem_of_getElem? (i := 778) (by decide +kernel)) rfl), (xk_in (List.mem_of_getElem? (i := 779) (by decide +kernel)) rfl), ⟨_, rfl, rfl⟩, by decide⟩
theorem mo_M_count : xk_mok m_M_count 1 := ⟨rfl, by decide, (xk_in (List.mem_of_getElem? (i := 784) (by decide +kernel)) rfl), (xk_in (List.mem_of_getElem? (i := 42) (by decide +kernel)) rfl), ⟨by decide, by decide⟩, by decide +kernel⟩
theorem cz_M_count : xk_CV m_M_count 7 1 := ⟨mo_M_count, (xk_in (List.mem_of_getElem? (i := 782) (by decide +kernel)) rfl), (xk_in (List.mem_of_getElem? (i := 783) (by decide +kernel)) rfl), ⟨_, rfl, rfl⟩, by decide⟩
